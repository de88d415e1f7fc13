set_option maxHeartbeats 4000000 in
set_option maxRecDepth 100000 in
theorem law_loop {X : jX} {Q : State → Prop} {rt0 : Option FieldType} {b L o1 o2 : Nat} {xs : Nat → Int32} (C : jC X RL b_L_law (4, 99) rt0 7 600000 7302250) (hX : jSc X b L xs) (hL : L ≤ 3072) (hEnd : ∀ (w : jw) (k n : Nat) (lv : List (Nat × Value)), k ≤ 600000 → n ≤ 7302250 → J X (4, 99) Q w k n 702 lv [.int 1]) : ∀ (qq j : Nat) (wa wb : jw) (s : jS) (k n : Nat), L + 1 ≤ 6 * j + qq → 6 * j ≤ L → RepC (xG X) wa o1 s → RepM (xG X) wb o2 s → WF s → k ≤ 60 + 4 * j → n ≤ 400000 + 1300 * j → J X (4, 99) Q (jj wa wb) k n 18 [(0, .ref b), (1, .ref o1), (2, .ref o2), (3, .int (nI (6 * j)))] [] := by
  intro qq
  induction qq with
  | zero => intro j wa wb s k n h1 h2; omega
  | succ qq ih =>
    intro j wa wb s k n hj1 hj2 hC hM hW hk hn
    refine j_iload_n (i := 3) (t := 19) C d_L_law_18 rfl rfl rfl ?_
    refine j_aload_n (i := 0) (t := 20) C d_L_law_19 rfl rfl (by first | exact jrv_r | exact jrv_n | exact jrv_f) rfl ?_
    refine j_slen (t := 21) C d_L_law_20 hX rfl ?_
    refine j_bipush (x := 6) (t := 23) C d_L_law_21 rfl rfl ?_
    refine j_isub (t := 24) C d_L_law_23 rfl ?_
    refine j_icmp_gt (tgt := 701) (t := 27) C d_L_law_24 (by decide) rfl (fun h24 => ?_) (fun h24 => ?_)
    · refine j_iconst (x := 1) (t := 702) C d_L_law_701 rfl rfl ?_
      exact hEnd _ _ _ _ (by omega) (by omega)
    · have hz : ¬ L < 6 * j + 6 := fun z => h24 ((i_end hL (by omega)).mpr z)
      have hj6 : 6 * j + 6 ≤ L := by omega
      have next : (∀ (wa' wb' : jw) (s' : jS) (k' n' : Nat), RepC (xG X) wa' o1 s' → RepM (xG X) wb' o2 s' → WF s' → k' ≤ 64 + 4 * j → n' ≤ 401300 + 1300 * j → J X (4, 99) Q (jj wa' wb') k' n' 695 [(0, .ref b), (1, .ref o1), (2, .ref o2), (3, .int (nI (6 * j)))] []) := by
        intro wa' wb' s' k' n' g1 g2 g3 g4 g5
        refine j_iinc (y := _ + 6) (t := 698) (lv' := [(0, _), (1, _), (2, _), (3, _)]) C d_L_law_695 rfl rfl (by decide) (by decide) rfl rfl ?_
        rw [show nI (6 * j) + 6 = nI (6 * (j + 1)) from nI_add (6 * j) 6]
        refine j_goto (tgt := 18) C d_L_law_698 (by decide) ?_
        exact ih (j + 1) wa' wb' s' k' n' (by omega) (by omega) g1 g2 g3 (by omega) (by omega)
      refine j_aload_n (i := 0) (t := 28) C d_L_law_27 rfl rfl (by first | exact jrv_r | exact jrv_n | exact jrv_f) rfl ?_
      refine j_iload_n (i := 3) (t := 29) C d_L_law_28 rfl rfl rfl ?_
      refine j_sld (N := 6 * j) (t := 30) C d_L_law_29 hX rfl (by omega) (by omega) rfl ?_
      refine j_bipush (x := 31) (t := 32) C d_L_law_30 rfl rfl ?_
      refine j_iand (t := 33) C d_L_law_32 rfl ?_
      by_cases c33_0 : (xs (6 * j) &&& 31) = 0
      · refine j_tableIn (tgt := 116) C d_L_law_33 (by rw [c33_0]; decide) (by rw [c33_0]; decide) (by rw [c33_0]; rfl) (by decide) ?_
        exact law_0 C hX hL hj6 hC hM hW hk hn next
      by_cases c33_1 : (xs (6 * j) &&& 31) = 1
      · refine j_tableIn (tgt := 179) C d_L_law_33 (by rw [c33_1]; decide) (by rw [c33_1]; decide) (by rw [c33_1]; rfl) (by decide) ?_
        exact law_1 C hX hL hj6 hC hM hW hk hn next
      by_cases c33_2 : (xs (6 * j) &&& 31) = 2
      · refine j_tableIn (tgt := 202) C d_L_law_33 (by rw [c33_2]; decide) (by rw [c33_2]; decide) (by rw [c33_2]; rfl) (by decide) ?_
        exact law_2 C hX hL hj6 hC hM hW hk hn next
      by_cases c33_3 : (xs (6 * j) &&& 31) = 3
      · refine j_tableIn (tgt := 275) C d_L_law_33 (by rw [c33_3]; decide) (by rw [c33_3]; decide) (by rw [c33_3]; rfl) (by decide) ?_
        exact law_3 C hX hL hj6 hC hM hW hk hn next
      by_cases c33_4 : (xs (6 * j) &&& 31) = 4
      · refine j_tableIn (tgt := 308) C d_L_law_33 (by rw [c33_4]; decide) (by rw [c33_4]; decide) (by rw [c33_4]; rfl) (by decide) ?_
        exact law_4 C hX hL hj6 hC hM hW hk hn next
      by_cases c33_5 : (xs (6 * j) &&& 31) = 5
      · refine j_tableIn (tgt := 341) C d_L_law_33 (by rw [c33_5]; decide) (by rw [c33_5]; decide) (by rw [c33_5]; rfl) (by decide) ?_
        exact law_5 C hX hL hj6 hC hM hW hk hn next
      by_cases c33_6 : (xs (6 * j) &&& 31) = 6
      · refine j_tableIn (tgt := 364) C d_L_law_33 (by rw [c33_6]; decide) (by rw [c33_6]; decide) (by rw [c33_6]; rfl) (by decide) ?_
        exact law_6 C hX hL hj6 hC hM hW hk hn next
      by_cases c33_7 : (xs (6 * j) &&& 31) = 7
      · refine j_tableIn (tgt := 427) C d_L_law_33 (by rw [c33_7]; decide) (by rw [c33_7]; decide) (by rw [c33_7]; rfl) (by decide) ?_
        exact law_7 C hX hL hj6 hC hM hW hk hn next
      by_cases c33_8 : (xs (6 * j) &&& 31) = 8
      · refine j_tableIn (tgt := 450) C d_L_law_33 (by rw [c33_8]; decide) (by rw [c33_8]; decide) (by rw [c33_8]; rfl) (by decide) ?_
        exact law_8 C hX hL hj6 hC hM hW hk hn next
      by_cases c33_9 : (xs (6 * j) &&& 31) = 9
      · refine j_tableIn (tgt := 513) C d_L_law_33 (by rw [c33_9]; decide) (by rw [c33_9]; decide) (by rw [c33_9]; rfl) (by decide) ?_
        exact law_9 C hX hL hj6 hC hM hW hk hn next
      by_cases c33_10 : (xs (6 * j) &&& 31) = 10
      · refine j_tableIn (tgt := 524) C d_L_law_33 (by rw [c33_10]; decide) (by rw [c33_10]; decide) (by rw [c33_10]; rfl) (by decide) ?_
        exact law_10 C hX hL hj6 hC hM hW hk hn next
      by_cases c33_11 : (xs (6 * j) &&& 31) = 11
      · refine j_tableIn (tgt := 547) C d_L_law_33 (by rw [c33_11]; decide) (by rw [c33_11]; decide) (by rw [c33_11]; rfl) (by decide) ?_
        exact law_11 C hX hL hj6 hC hM hW hk hn next
      by_cases c33_12 : (xs (6 * j) &&& 31) = 12
      · refine j_tableIn (tgt := 570) C d_L_law_33 (by rw [c33_12]; decide) (by rw [c33_12]; decide) (by rw [c33_12]; rfl) (by decide) ?_
        exact law_12 C hX hL hj6 hC hM hW hk hn next
      by_cases c33_13 : (xs (6 * j) &&& 31) = 13
      · refine j_tableIn (tgt := 593) C d_L_law_33 (by rw [c33_13]; decide) (by rw [c33_13]; decide) (by rw [c33_13]; rfl) (by decide) ?_
        exact law_13 C hX hL hj6 hC hM hW hk hn next
      by_cases c33_14 : (xs (6 * j) &&& 31) = 14
      · refine j_tableIn (tgt := 636) C d_L_law_33 (by rw [c33_14]; decide) (by rw [c33_14]; decide) (by rw [c33_14]; rfl) (by decide) ?_
        exact law_14 C hX hL hj6 hC hM hW hk hn next
      by_cases c33_15 : (xs (6 * j) &&& 31) = 15
      · refine j_tableIn (tgt := 659) C d_L_law_33 (by rw [c33_15]; decide) (by rw [c33_15]; decide) (by rw [c33_15]; rfl) (by decide) ?_
        exact law_15 C hX hL hj6 hC hM hW hk hn next
      by_cases c33_16 : (xs (6 * j) &&& 31) = 16
      · refine j_tableIn (tgt := 682) C d_L_law_33 (by rw [c33_16]; decide) (by rw [c33_16]; decide) (by rw [c33_16]; rfl) (by decide) ?_
        exact law_16 C hX hL hj6 hC hM hW hk hn next
      refine j_tableOut (tgt := 695) C d_L_law_33 (by have q0 := lv_neT c33_0 (a := 0) (by decide); have q1 := lv_neT c33_1 (a := 1) (by decide); have q2 := lv_neT c33_2 (a := 2) (by decide); have q3 := lv_neT c33_3 (a := 3) (by decide); have q4 := lv_neT c33_4 (a := 4) (by decide); have q5 := lv_neT c33_5 (a := 5) (by decide); have q6 := lv_neT c33_6 (a := 6) (by decide); have q7 := lv_neT c33_7 (a := 7) (by decide); have q8 := lv_neT c33_8 (a := 8) (by decide); have q9 := lv_neT c33_9 (a := 9) (by decide); have q10 := lv_neT c33_10 (a := 10) (by decide); have q11 := lv_neT c33_11 (a := 11) (by decide); have q12 := lv_neT c33_12 (a := 12) (by decide); have q13 := lv_neT c33_13 (a := 13) (by decide); have q14 := lv_neT c33_14 (a := 14) (by decide); have q15 := lv_neT c33_15 (a := 15) (by decide); have q16 := lv_neT c33_16 (a := 16) (by decide); omega) (by decide) ?_
      exact next wa wb s k n hC hM hW (by omega) (by omega)

set_option maxHeartbeats 4000000 in
set_option maxRecDepth 100000 in
theorem law_run {X : jX} {Q : State → Prop} {rt0 : Option FieldType} {b L : Nat} {xs : Nat → Int32} (C : jC X RL b_L_law (4, 99) rt0 7 600000 7302250) (hX : jSc X b L xs) (hL : L ≤ 3072) (hG : (xG X).2.1 0 ≠ (xG X).2.1 1) (hEnd : ∀ (w : jw) (k n : Nat) (lv : List (Nat × Value)), k ≤ 600000 → n ≤ 7302250 → J X (4, 99) Q w k n 702 lv [.int 1]) : J X (4, 99) Q ([], fun _ => eO 0 []) 0 0 0 [(0, .ref b)] [] := by
  refine j_newW (t := 3) C nw_L_7 d_L_law_0 (by omega) (by first | omega | (simp only [List.length_cons, List.length_nil]; omega)) rfl (fun a0 w0 n0 e0 h0 f0 => ?_)
  refine j_wide (k' := 1) (n' := 13) (by omega) (Nat.le_of_ble_eq_true rfl) ?_
  refine j_dup (t := 4) C d_L_law_3 rfl rfl ?_
  refine j_callI (As := []) (t := 7) C (c_T_init _ a0) d_L_law_4 jb_T_init ml_L_9 im_T_init rfl rfl (Nat.le_of_ble_eq_true rfl) (by decide) (by omega) (by omega) (⟨rfl, h0⟩) rfl (fun r4 w4 p4 => ?_)
  obtain ⟨rfl, q0, q1, q2, q3, q4, q5, q6, -, hnd, y0, y1, y2, y3, y4, y5, y6, y7, -⟩ := p4
  dsimp only [jst]
  have hC := RepC_Z hG hnd y0 y1 y2 y3 y4 y5 y6 y7
  refine j_astore_n (i := 1) (t := 8) (lv' := [(0, _), (1, _)]) C d_L_law_7 rfl (by first | exact jrv_r | exact jrv_n | exact jrv_f) (by decide) (by decide) rfl rfl ?_
  refine j_newW (t := 11) C nw_L_10 d_L_law_8 (by omega) (by first | omega | (simp only [List.length_cons, List.length_nil]; omega)) rfl (fun a8 w8 n8 e8 h8 f8 => ?_)
  subst e8
  refine j_world (jn_jj n8) ?_
  refine j_wide (k' := 9) (n' := 3249) (by omega) (Nat.le_of_ble_eq_true rfl) ?_
  refine j_dup (t := 12) C d_L_law_11 rfl rfl ?_
  refine j_callIB (As := []) (t := 15) C (c_M_init _ a8) d_L_law_12 jb_M_init ml_L_12 im_M_init rfl rfl (Nat.le_of_ble_eq_true rfl) (by decide) (by omega) (by omega) (⟨rfl, List.mem_singleton.mpr rfl, rfl⟩) rfl (fun r12 w12 p12 => ?_)
  obtain ⟨rfl, hM⟩ := p12
  dsimp only [jst]
  refine j_astore_n (i := 2) (t := 16) (lv' := [(0, _), (1, _), (2, _)]) C d_L_law_15 rfl (by first | exact jrv_r | exact jrv_n | exact jrv_f) (by decide) (by decide) rfl rfl ?_
  refine j_iconst (x := 0) (t := 17) C d_L_law_16 rfl rfl ?_
  refine j_istore_n (i := 3) (t := 18) (lv' := [(0, _), (1, _), (2, _), (3, _)]) C d_L_law_17 rfl (by decide) (by decide) rfl rfl ?_
  exact law_loop C hX hL hEnd (L + 1) 0 _ _ sZ _ _ (by omega) (by omega) hC hM WF_Z (by omega) (by omega)
