set_option maxHeartbeats 4000000 in
set_option maxRecDepth 100000 in
/-- forget -/
theorem c_M_forget (l : Launch) (o : Nat) (s : jS) : MC l y_M_forget b_M_forget 1 (none) 0 0 0
    (fun G w av => av = [.ref o] ∧ RepM G w o s ∧ WF s)
    (fun G w av r w' => r = none ∧ RepM G w' o (sp_forget s)) := by
  refine MC.of 99 (by decide) ?_
  intro X w av hl C hnm hp
  obtain ⟨rfl, ⟨q, m, hM, hR⟩, hW⟩ := hp
  obtain ⟨wtn, wtp, wcc, wln, wsn, wzn, wcol, wlit, wst, wzt⟩ := id hW
  refine ⟨[(0, _)], rfl, Nat.le_of_ble_eq_true rfl, rfl, ?_⟩
  refine j_aload_n (i := 0) (t := 1) C d_M_forget_0 rfl rfl (by first | exact jrv_r | exact jrv_n | exact jrv_f) rfl ?_
  refine j_iconst (x := 0) (t := 2) C d_M_forget_1 rfl rfl ?_
  refine j_pt_cd (t := 5) C fp_M_79 d_M_forget_2 hM rfl (fun w2 M2 => ?_)
  obtain ⟨n, M2, hR⟩ : ∃ n : jM, MH (xG X) w2 o q n ∧ relM s n := ⟨_, M2, relM_cd hR⟩
  obtain ⟨⟨r_tn, r_tp⟩, ⟨r_cc, r_ln, r_sn, r_zn⟩, r_col, r_new, r_sz, r_lit, r_st, r_zt⟩ := id hR
  refine j_aload_n (i := 0) (t := 6) C d_M_forget_5 rfl rfl (by first | exact jrv_r | exact jrv_n | exact jrv_f) rfl ?_
  refine j_iconst (x := 0) (t := 7) C d_M_forget_6 rfl rfl ?_
  refine j_pt_sn (t := 10) C fp_M_109 d_M_forget_7 M2 rfl (fun w7 M7 => ?_)
  refine j_aload_n (i := 0) (t := 11) C d_M_forget_10 rfl rfl (by first | exact jrv_r | exact jrv_n | exact jrv_f) rfl ?_
  refine j_iconst (x := 0) (t := 12) C d_M_forget_11 rfl rfl ?_
  refine j_pt_ln (t := 15) C fp_M_101 d_M_forget_12 M7 rfl (fun w12 M12 => ?_)
  exact j_vret C d_M_forget_15 (⟨rfl, RepM.of M12 (relM_forget hR)⟩) (by omega) (by omega)

set_option maxHeartbeats 4000000 in
set_option maxRecDepth 100000 in
/-- truth -/
theorem c_M_truth (l : Launch) (o : Nat) (s : jS) (x : Int32) : MC l y_M_truth b_M_truth 2 ((some .int)) 0 0 0
    (fun G w av => av = [.ref o, .int x] ∧ RepM G w o s ∧ WF s)
    (fun G w av r w' => r = some (.int (sp_truth s x)) ∧ RepM G w' o s) := by
  refine MC.of 99 (by decide) ?_
  intro X w av hl C hnm hp
  obtain ⟨rfl, ⟨q, m, hM, hR⟩, hW⟩ := hp
  obtain ⟨wtn, wtp, wcc, wln, wsn, wzn, wcol, wlit, wst, wzt⟩ := id hW
  refine ⟨[(0, _), (1, _)], rfl, Nat.le_of_ble_eq_true rfl, rfl, ?_⟩
  refine j_aload_n (i := 0) (t := 1) C d_M_truth_0 rfl rfl (by first | exact jrv_r | exact jrv_n | exact jrv_f) rfl ?_
  refine j_iconst (x := 0) (t := 2) C d_M_truth_1 rfl rfl ?_
  refine j_pt_cd (t := 5) C fp_M_79 d_M_truth_2 hM rfl (fun w2 M2 => ?_)
  obtain ⟨n, M2, hR⟩ : ∃ n : jM, MH (xG X) w2 o q n ∧ relM s n := ⟨_, M2, relM_cd hR⟩
  obtain ⟨⟨r_tn, r_tp⟩, ⟨r_cc, r_ln, r_sn, r_zn⟩, r_col, r_new, r_sz, r_lit, r_st, r_zt⟩ := id hR
  refine j_iload_n (i := 1) (t := 6) C d_M_truth_5 rfl rfl rfl ?_
  refine j_if_lt (tgt := 17) (t := 9) C d_M_truth_6 (by decide) rfl (fun h6 => ?_) (fun h6 => ?_)
  · refine j_iconst (x := (-1)) (t := 18) C d_M_truth_17 rfl rfl ?_
    refine j_goto (tgt := 27) C d_M_truth_18 (by decide) ?_
    exact j_iret C d_M_truth_27 (by first | rfl | exact nar_b) (⟨by unfold sp_truth; first | rw [if_pos (Or.inl h6)] | rw [if_pos (Or.inr (Int32.not_lt.mp h14))] | rw [if_neg (fun z => z.elim h6 (fun z2 => Int32.not_lt.mpr z2 h14)), nI_clamp hj], RepM.of M2 hR⟩) (by omega) (by omega)
  · refine j_iload_n (i := 1) (t := 10) C d_M_truth_9 rfl rfl rfl ?_
    refine j_aload_n (i := 0) (t := 11) C d_M_truth_10 rfl rfl (by first | exact jrv_r | exact jrv_n | exact jrv_f) rfl ?_
    refine j_get (t := 14) C fl_M_145 d_M_truth_11 M2.1 rfl rfl ?_
    rw [r_zn]
    refine j_icmp_lt (tgt := 21) (t := 17) C d_M_truth_14 (by decide) rfl (fun h14 => ?_) (fun h14 => ?_)
    · obtain ⟨j, hj, rfl⟩ := nI_of h6
      have hjz : j < g_zn s := (nI_ltI hj (by omega)).mp h14
      refine j_aload_n (i := 0) (t := 22) C d_M_truth_21 rfl rfl (by first | exact jrv_r | exact jrv_n | exact jrv_f) rfl ?_
      refine j_get (t := 25) C fl_M_73 d_M_truth_22 M2.1 rfl rfl ?_
      refine j_iload_n (i := 1) (t := 26) C d_M_truth_25 rfl rfl rfl ?_
      refine j_ld_tr (i := j) (t := 27) C d_M_truth_26 M2 (by rfl) (by omega) (r_zt j hjz) rfl ?_
      exact j_iret C d_M_truth_27 (by first | rfl | exact nar_b) (⟨by unfold sp_truth; first | rw [if_pos (Or.inl h6)] | rw [if_pos (Or.inr (Int32.not_lt.mp h14))] | rw [if_neg (fun z => z.elim h6 (fun z2 => Int32.not_lt.mpr z2 h14)), nI_clamp hj], RepM.of M2 hR⟩) (by omega) (by omega)
    · refine j_iconst (x := (-1)) (t := 18) C d_M_truth_17 rfl rfl ?_
      refine j_goto (tgt := 27) C d_M_truth_18 (by decide) ?_
      exact j_iret C d_M_truth_27 (by first | rfl | exact nar_b) (⟨by unfold sp_truth; first | rw [if_pos (Or.inl h6)] | rw [if_pos (Or.inr (Int32.not_lt.mp h14))] | rw [if_neg (fun z => z.elim h6 (fun z2 => Int32.not_lt.mpr z2 h14)), nI_clamp hj], RepM.of M2 hR⟩) (by omega) (by omega)

set_option maxHeartbeats 4000000 in
set_option maxRecDepth 100000 in
/-- chosen -/
theorem c_M_chosen (l : Launch) (o : Nat) (s : jS) (x : Int32) : MC l y_M_chosen b_M_chosen 4 ((some .int)) 0 0 0
    (fun G w av => av = [.ref o, .int x] ∧ RepM G w o s ∧ WF s)
    (fun G w av r w' => r = some (.int (sp_chosen s x)) ∧ RepM G w' o s) := by
  refine MC.of 99 (by decide) ?_
  intro X w av hl C hnm hp
  obtain ⟨rfl, ⟨q, m, hM, hR⟩, hW⟩ := hp
  obtain ⟨wtn, wtp, wcc, wln, wsn, wzn, wcol, wlit, wst, wzt⟩ := id hW
  refine ⟨[(0, _), (1, _)], rfl, Nat.le_of_ble_eq_true rfl, rfl, ?_⟩
  refine j_aload_n (i := 0) (t := 1) C d_M_chosen_0 rfl rfl (by first | exact jrv_r | exact jrv_n | exact jrv_f) rfl ?_
  refine j_iconst (x := 0) (t := 2) C d_M_chosen_1 rfl rfl ?_
  refine j_pt_cd (t := 5) C fp_M_79 d_M_chosen_2 hM rfl (fun w2 M2 => ?_)
  obtain ⟨n, M2, hR⟩ : ∃ n : jM, MH (xG X) w2 o q n ∧ relM s n := ⟨_, M2, relM_cd hR⟩
  obtain ⟨⟨r_tn, r_tp⟩, ⟨r_cc, r_ln, r_sn, r_zn⟩, r_col, r_new, r_sz, r_lit, r_st, r_zt⟩ := id hR
  refine j_iconst (x := 0) (t := 6) C d_M_chosen_5 rfl rfl ?_
  refine j_istore_n (i := 2) (t := 7) (lv' := [(0, _), (1, _), (2, _)]) C d_M_chosen_6 rfl (by decide) (by decide) rfl rfl ?_
  refine j_iconst (x := 0) (t := 8) C d_M_chosen_7 rfl rfl ?_
  refine j_istore_n (i := 3) (t := 9) (lv' := [(0, _), (1, _), (2, _), (3, _)]) C d_M_chosen_8 rfl (by decide) (by decide) rfl rfl ?_
  by_cases hx0 : x < 0
  · refine j_iload_n (i := 3) (t := 10) C d_M_chosen_9 rfl rfl rfl ?_
    refine j_aload_n (i := 0) (t := 11) C d_M_chosen_10 rfl rfl (by first | exact jrv_r | exact jrv_n | exact jrv_f) rfl ?_
    refine j_get (t := 14) C fl_M_145 d_M_chosen_11 M2.1 rfl rfl ?_
    refine j_icmp_ge (tgt := 50) (t := 17) C d_M_chosen_14 (by decide) rfl (fun h14 => ?_) (fun h14 => ?_)
    · refine j_iconst (x := (-1)) (t := 51) C d_M_chosen_50 rfl rfl ?_
      exact j_iret C d_M_chosen_51 (by first | rfl | exact nar_b) (⟨by unfold sp_chosen; rw [if_pos hx0], RepM.of M2 hR⟩) (by omega) (by omega)
    · refine j_iload_n (i := 1) (t := 18) C d_M_chosen_17 rfl rfl rfl ?_
      refine j_if_lt (tgt := 50) (t := 21) C d_M_chosen_18 (by decide) rfl (fun h18 => ?_) (fun h18 => absurd h18 (not_not_intro hx0))
      refine j_iconst (x := (-1)) (t := 51) C d_M_chosen_50 rfl rfl ?_
      exact j_iret C d_M_chosen_51 (by first | rfl | exact nar_b) (⟨by unfold sp_chosen; rw [if_pos hx0], RepM.of M2 hR⟩) (by omega) (by omega)
  · obtain ⟨kx, hkx, rfl⟩ := nI_of hx0
    have loop : ∀ (qq i : Nat), g_zn s + 1 ≤ i + qq → i ≤ g_zn s → kthN (g_zt s) kx i = none → J X (4, 99) (jQ X (fun r w' => r = some (.int (sp_chosen s (nI kx))) ∧ RepM (xG X) w' o s) 0 0) w2 0 0 9 [(0, .ref o), (1, .int (nI kx)), (2, .int (nI (cnt (g_zt s) i))), (3, .int (nI i))] [] := by
      intro qq
      induction qq with
      | zero => intro i h1 h2; omega
      | succ qq ih =>
        intro i hi1 hi2 hkn
        refine j_iload_n (i := 3) (t := 10) C d_M_chosen_9 rfl rfl rfl ?_
        refine j_aload_n (i := 0) (t := 11) C d_M_chosen_10 rfl rfl (by first | exact jrv_r | exact jrv_n | exact jrv_f) rfl ?_
        refine j_get (t := 14) C fl_M_145 d_M_chosen_11 M2.1 rfl rfl ?_
        rw [r_zn]
        refine j_icmp_ge (tgt := 50) (t := 17) C d_M_chosen_14 (by decide) rfl (fun h14 => ?_) (fun h14 => ?_)
        · refine j_iconst (x := (-1)) (t := 51) C d_M_chosen_50 rfl rfl ?_
          exact j_iret C d_M_chosen_51 (by first | rfl | exact nar_b) (⟨by unfold sp_chosen; rw [if_neg (nI_pos hkx), nI_clamp hkx, ← fde h14 (by omega) (by omega) hi2, hkn], RepM.of M2 hR⟩) (by omega) (by omega)
        · refine j_iload_n (i := 1) (t := 18) C d_M_chosen_17 rfl rfl rfl ?_
          refine j_if_lt (tgt := 50) (t := 21) C d_M_chosen_18 (by decide) rfl (fun h18 => absurd h18 (nI_pos hkx)) (fun h18 => ?_)
          have hi3 : i < g_zn s := fdh h14 (by omega) (by omega)
          refine j_aload_n (i := 0) (t := 22) C d_M_chosen_21 rfl rfl (by first | exact jrv_r | exact jrv_n | exact jrv_f) rfl ?_
          refine j_get (t := 25) C fl_M_73 d_M_chosen_22 M2.1 rfl rfl ?_
          refine j_iload_n (i := 3) (t := 26) C d_M_chosen_25 rfl rfl rfl ?_
          refine j_ld_tr (i := i) (t := 27) C d_M_chosen_26 M2 (by first | rfl | simp only [nI_add, nI_mul, nI_1]) (by omega) (r_zt i hi3) rfl ?_
          refine j_iconst (x := 1) (t := 28) C d_M_chosen_27 rfl rfl ?_
          refine j_icmp_eq (tgt := 34) (t := 31) C d_M_chosen_28 (by decide) rfl (fun h28 => ?_) (fun h28 => ?_)
          · have hz2 := trv_1.mp h28
            refine j_iload_n (i := 2) (t := 35) C d_M_chosen_34 rfl rfl rfl ?_
            refine j_iload_n (i := 1) (t := 36) C d_M_chosen_35 rfl rfl rfl ?_
            refine j_icmp_ne (tgt := 41) (t := 39) C d_M_chosen_36 (by decide) rfl (fun h36 => ?_) (fun h36 => ?_)
            · refine j_iinc (y := _ + 1) (t := 44) (lv' := [(0, _), (1, _), (2, _), (3, _)]) C d_M_chosen_41 rfl rfl (by decide) (by decide) rfl rfl ?_
              refine j_iinc (y := _ + 1) (t := 47) (lv' := [(0, _), (1, _), (2, _), (3, _)]) C d_M_chosen_44 rfl rfl (by decide) (by decide) rfl rfl ?_
              refine j_goto (tgt := 9) C d_M_chosen_47 (by decide) ?_
              first
              | (rw [nI_1, nI_1, ← cnt_t hz2]; exact ih (i + 1) (by omega) (by omega) (kthN_step hkn (fun z => h36 (by rw [z.2]))))
              | (rw [nI_1, ← cnt_f (fun z => h28 (trv_1.mpr z))]; exact ih (i + 1) (by omega) (by omega) (kthN_step hkn (fun z => h28 (trv_1.mpr z.1))))
            · refine j_iload_n (i := 3) (t := 40) C d_M_chosen_39 rfl rfl rfl ?_
              exact j_iret C d_M_chosen_40 (by first | rfl | exact nar_b) (⟨by unfold sp_chosen; rw [if_neg (nI_pos hkx), nI_clamp hkx, kthN_some hz2 ((nI_eq (Nat.lt_of_le_of_lt (cnt_le i) (by omega)) hkx).mp h36) hi3], RepM.of M2 hR⟩) (by omega) (by omega)
          · refine j_goto (tgt := 44) C d_M_chosen_31 (by decide) ?_
            refine j_iinc (y := _ + 1) (t := 47) (lv' := [(0, _), (1, _), (2, _), (3, _)]) C d_M_chosen_44 rfl rfl (by decide) (by decide) rfl rfl ?_
            refine j_goto (tgt := 9) C d_M_chosen_47 (by decide) ?_
            first
            | (rw [nI_1, nI_1, ← cnt_t hz2]; exact ih (i + 1) (by omega) (by omega) (kthN_step hkn (fun z => h36 (by rw [z.2]))))
            | (rw [nI_1, ← cnt_f (fun z => h28 (trv_1.mpr z))]; exact ih (i + 1) (by omega) (by omega) (kthN_step hkn (fun z => h28 (trv_1.mpr z.1))))
    exact loop (g_zn s + 1) 0 (by omega) (Nat.zero_le _) rfl

set_option maxHeartbeats 4000000 in
set_option maxRecDepth 100000 in
/-- clear -/
theorem c_M_clear (l : Launch) (o : Nat) (s : jS) (x : Int32) : MC l y_M_clear b_M_clear 2 ((some .boolean)) 1 0 0
    (fun G w av => av = [.ref o, .int x] ∧ RepM G w o s ∧ WF s)
    (fun G w av r w' => r = some (.int (sp_clear s x).1) ∧ RepM G w' o (sp_clear s x).2) := by
  refine MC.of 99 (by decide) ?_
  intro X w av hl C hnm hp
  obtain ⟨rfl, ⟨q, m, hM, hR⟩, hW⟩ := hp
  obtain ⟨wtn, wtp, wcc, wln, wsn, wzn, wcol, wlit, wst, wzt⟩ := id hW
  refine ⟨[(0, _), (1, _)], rfl, Nat.le_of_ble_eq_true rfl, rfl, ?_⟩
  refine j_aload_n (i := 0) (t := 1) C d_M_clear_0 rfl rfl (by first | exact jrv_r | exact jrv_n | exact jrv_f) rfl ?_
  refine j_iconst (x := 0) (t := 2) C d_M_clear_1 rfl rfl ?_
  refine j_pt_cd (t := 5) C fp_M_79 d_M_clear_2 hM rfl (fun w2 M2 => ?_)
  obtain ⟨n, M2, hR⟩ : ∃ n : jM, MH (xG X) w2 o q n ∧ relM s n := ⟨_, M2, relM_cd hR⟩
  obtain ⟨⟨r_tn, r_tp⟩, ⟨r_cc, r_ln, r_sn, r_zn⟩, r_col, r_new, r_sz, r_lit, r_st, r_zt⟩ := id hR
  refine j_aload_n (i := 0) (t := 6) C d_M_clear_5 rfl rfl (by first | exact jrv_r | exact jrv_n | exact jrv_f) rfl ?_
  refine j_iload_n (i := 1) (t := 7) C d_M_clear_6 rfl rfl rfl ?_
  refine j_callV (As := [_]) (t := 10) C (c_M_isColumn _ o q n s x) d_M_clear_7 jb_M_isColumn ml_M_89 jv_M_isColumn M2.1 rfl rfl rfl (Nat.le_of_ble_eq_true rfl) (by decide) (by omega) (by omega) (⟨rfl, M2, r_cc⟩) rfl (fun r7 w7 p7 => ?_)
  obtain ⟨rfl, rfl⟩ := p7
  dsimp only [jst]
  refine j_if_ne (tgt := 15) (t := 13) C d_M_clear_10 (by decide) rfl (fun h10 => ?_) (fun h10 => ?_)
  · obtain ⟨c, hcx⟩ := ci_some h10
    obtain ⟨hc, rfl⟩ := cix_some wcc hcx
    refine j_aload_n (i := 0) (t := 16) C d_M_clear_15 rfl rfl (by first | exact jrv_r | exact jrv_n | exact jrv_f) rfl ?_
    refine j_get (t := 19) C fl_M_30 d_M_clear_16 M2.1 rfl rfl ?_
    refine j_iload_n (i := 1) (t := 20) C d_M_clear_19 rfl rfl rfl ?_
    refine j_iconst (x := 0) (t := 21) C d_M_clear_20 rfl rfl ?_
    refine j_st_cnt (i := c) (t := 22) C d_M_clear_21 M2 (by rfl) (by omega) rfl (fun w21 M21 => ?_)
    refine j_aload_n (i := 0) (t := 23) C d_M_clear_22 rfl rfl (by first | exact jrv_r | exact jrv_n | exact jrv_f) rfl ?_
    refine j_get (t := 26) C fl_M_33 d_M_clear_23 M21.1 rfl rfl ?_
    refine j_iload_n (i := 1) (t := 27) C d_M_clear_26 rfl rfl rfl ?_
    refine j_iconst (x := 0) (t := 28) C d_M_clear_27 rfl rfl ?_
    refine j_st_us (i := c) (t := 29) C d_M_clear_28 M21 (by rfl) (by omega) rfl (fun w28 M28 => ?_)
    refine j_iconst (x := 1) (t := 30) C d_M_clear_29 rfl rfl ?_
    exact j_iret C d_M_clear_30 (by first | rfl | exact nar_b) (⟨by simp [sp_clear, hcx], by simp only [sp_clear, hcx]; exact RepM.of M28 (relM_clear hR hW hc)⟩) (by omega) (by omega)
  · have hcn := ci_none h10
    refine j_iconst (x := 0) (t := 14) C d_M_clear_13 rfl rfl ?_
    exact j_iret C d_M_clear_14 (by first | rfl | exact nar_b) (⟨by simp [sp_clear, hcn], by simp only [sp_clear, hcn]; exact RepM.of M2 hR⟩) (by omega) (by omega)

set_option maxHeartbeats 4000000 in
set_option maxRecDepth 100000 in
/-- unknown -/
theorem c_M_unknown (l : Launch) (o : Nat) (s : jS) (x : Int32) : MC l y_M_unknown b_M_unknown 2 ((some .boolean)) 1 0 0
    (fun G w av => av = [.ref o, .int x] ∧ RepM G w o s ∧ WF s)
    (fun G w av r w' => r = some (.int (sp_unknown s x).1) ∧ RepM G w' o (sp_unknown s x).2) := by
  refine MC.of 99 (by decide) ?_
  intro X w av hl C hnm hp
  obtain ⟨rfl, ⟨q, m, hM, hR⟩, hW⟩ := hp
  obtain ⟨wtn, wtp, wcc, wln, wsn, wzn, wcol, wlit, wst, wzt⟩ := id hW
  refine ⟨[(0, _), (1, _)], rfl, Nat.le_of_ble_eq_true rfl, rfl, ?_⟩
  refine j_aload_n (i := 0) (t := 1) C d_M_unknown_0 rfl rfl (by first | exact jrv_r | exact jrv_n | exact jrv_f) rfl ?_
  refine j_iconst (x := 0) (t := 2) C d_M_unknown_1 rfl rfl ?_
  refine j_pt_cd (t := 5) C fp_M_79 d_M_unknown_2 hM rfl (fun w2 M2 => ?_)
  obtain ⟨n, M2, hR⟩ : ∃ n : jM, MH (xG X) w2 o q n ∧ relM s n := ⟨_, M2, relM_cd hR⟩
  obtain ⟨⟨r_tn, r_tp⟩, ⟨r_cc, r_ln, r_sn, r_zn⟩, r_col, r_new, r_sz, r_lit, r_st, r_zt⟩ := id hR
  refine j_aload_n (i := 0) (t := 6) C d_M_unknown_5 rfl rfl (by first | exact jrv_r | exact jrv_n | exact jrv_f) rfl ?_
  refine j_iload_n (i := 1) (t := 7) C d_M_unknown_6 rfl rfl rfl ?_
  refine j_callV (As := [_]) (t := 10) C (c_M_isColumn _ o q n s x) d_M_unknown_7 jb_M_isColumn ml_M_89 jv_M_isColumn M2.1 rfl rfl rfl (Nat.le_of_ble_eq_true rfl) (by decide) (by omega) (by omega) (⟨rfl, M2, r_cc⟩) rfl (fun r7 w7 p7 => ?_)
  obtain ⟨rfl, rfl⟩ := p7
  dsimp only [jst]
  refine j_if_ne (tgt := 15) (t := 13) C d_M_unknown_10 (by decide) rfl (fun h10 => ?_) (fun h10 => ?_)
  · obtain ⟨c, hcx⟩ := ci_some h10
    obtain ⟨hc, rfl⟩ := cix_some wcc hcx
    refine j_aload_n (i := 0) (t := 16) C d_M_unknown_15 rfl rfl (by first | exact jrv_r | exact jrv_n | exact jrv_f) rfl ?_
    refine j_get (t := 19) C fl_M_45 d_M_unknown_16 M2.1 rfl rfl ?_
    refine j_iload_n (i := 1) (t := 20) C d_M_unknown_19 rfl rfl rfl ?_
    refine j_iconst (x := 0) (t := 21) C d_M_unknown_20 rfl rfl ?_
    refine j_st_kn (i := c) (t := 22) C d_M_unknown_21 M2 (by rfl) (by omega) rfl rfl (fun w21 M21 => ?_)
    refine j_aload_n (i := 0) (t := 23) C d_M_unknown_22 rfl rfl (by first | exact jrv_r | exact jrv_n | exact jrv_f) rfl ?_
    refine j_get (t := 26) C fl_M_42 d_M_unknown_23 M21.1 rfl rfl ?_
    refine j_iload_n (i := 1) (t := 27) C d_M_unknown_26 rfl rfl rfl ?_
    refine j_iconst (x := 0) (t := 28) C d_M_unknown_27 rfl rfl ?_
    refine j_st_wd (i := c) (t := 29) C d_M_unknown_28 M21 (by rfl) (by omega) rfl (fun w28 M28 => ?_)
    refine j_iconst (x := 1) (t := 30) C d_M_unknown_29 rfl rfl ?_
    exact j_iret C d_M_unknown_30 (by first | rfl | exact nar_b) (⟨by simp [sp_unknown, hcx], by simp only [sp_unknown, hcx]; exact RepM.of M28 (relM_unknown hR hW hc)⟩) (by omega) (by omega)
  · have hcn := ci_none h10
    refine j_iconst (x := 0) (t := 14) C d_M_unknown_13 rfl rfl ?_
    exact j_iret C d_M_unknown_14 (by first | rfl | exact nar_b) (⟨by simp [sp_unknown, hcn], by simp only [sp_unknown, hcn]; exact RepM.of M2 hR⟩) (by omega) (by omega)

set_option maxHeartbeats 4000000 in
set_option maxRecDepth 100000 in
/-- column -/
theorem c_M_column (l : Launch) (o : Nat) (s : jS) (ty : Int32) : MC l y_M_column b_M_column 2 ((some .int)) 0 0 0
    (fun G w av => av = [.ref o, .int ty] ∧ RepM G w o s ∧ WF s)
    (fun G w av r w' => r = some (.int (sp_column s ty).1) ∧ RepM G w' o (sp_column s ty).2) := by
  refine MC.of 99 (by decide) ?_
  intro X w av hl C hnm hp
  obtain ⟨rfl, ⟨q, m, hM, hR⟩, hW⟩ := hp
  obtain ⟨wtn, wtp, wcc, wln, wsn, wzn, wcol, wlit, wst, wzt⟩ := id hW
  refine ⟨[(0, _), (1, _)], rfl, Nat.le_of_ble_eq_true rfl, rfl, ?_⟩
  refine j_aload_n (i := 0) (t := 1) C d_M_column_0 rfl rfl (by first | exact jrv_r | exact jrv_n | exact jrv_f) rfl ?_
  refine j_iconst (x := 0) (t := 2) C d_M_column_1 rfl rfl ?_
  refine j_pt_cd (t := 5) C fp_M_79 d_M_column_2 hM rfl (fun w2 M2 => ?_)
  obtain ⟨n, M2, hR⟩ : ∃ n : jM, MH (xG X) w2 o q n ∧ relM s n := ⟨_, M2, relM_cd hR⟩
  obtain ⟨⟨r_tn, r_tp⟩, ⟨r_cc, r_ln, r_sn, r_zn⟩, r_col, r_new, r_sz, r_lit, r_st, r_zt⟩ := id hR
  refine j_aload_n (i := 0) (t := 6) C d_M_column_5 rfl rfl (by first | exact jrv_r | exact jrv_n | exact jrv_f) rfl ?_
  refine j_get (t := 9) C fl_M_86 d_M_column_6 M2.1 rfl rfl ?_
  refine j_bipush (x := nI 16) (t := 11) C d_M_column_9 rfl rfl ?_
  rw [r_cc]
  refine j_icmp_eq (tgt := 23) (t := 14) C d_M_column_11 (by decide) rfl (fun h11 => ?_) (fun h11 => ?_)
  · refine j_iconst (x := (-1)) (t := 24) C d_M_column_23 rfl rfl ?_
    exact j_iret C d_M_column_24 (by first | rfl | exact nar_b) (by
      have hn : ¬ (g_cc s < 16 ∧ ¬ ty < 0 ∧ ty ≤ 2) := by
        rintro ⟨z1, z2, z3⟩
        first
        | exact absurd ((nI_eq (by omega) (by omega)).mp h11) (by omega)
        | exact z2 h15
        | exact h20 z3
      unfold sp_column
      rw [if_neg hn]
      exact ⟨rfl, RepM.of M2 hR⟩) (by omega) (by omega)
  · refine j_iload_n (i := 1) (t := 15) C d_M_column_14 rfl rfl rfl ?_
    refine j_if_lt (tgt := 23) (t := 18) C d_M_column_15 (by decide) rfl (fun h15 => ?_) (fun h15 => ?_)
    · refine j_iconst (x := (-1)) (t := 24) C d_M_column_23 rfl rfl ?_
      exact j_iret C d_M_column_24 (by first | rfl | exact nar_b) (by
      have hn : ¬ (g_cc s < 16 ∧ ¬ ty < 0 ∧ ty ≤ 2) := by
        rintro ⟨z1, z2, z3⟩
        first
        | exact absurd ((nI_eq (by omega) (by omega)).mp h11) (by omega)
        | exact z2 h15
        | exact h20 z3
      unfold sp_column
      rw [if_neg hn]
      exact ⟨rfl, RepM.of M2 hR⟩) (by omega) (by omega)
    · refine j_iload_n (i := 1) (t := 19) C d_M_column_18 rfl rfl rfl ?_
      refine j_iconst (x := 2) (t := 20) C d_M_column_19 rfl rfl ?_
      refine j_icmp_le (tgt := 25) (t := 23) C d_M_column_20 (by decide) rfl (fun h20 => ?_) (fun h20 => ?_)
      · have hcc : g_cc s < 16 := fne h11 wcc
        refine j_aload_n (i := 0) (t := 26) C d_M_column_25 rfl rfl (by first | exact jrv_r | exact jrv_n | exact jrv_f) rfl ?_
        refine j_get (t := 29) C fl_M_27 d_M_column_26 M2.1 rfl rfl ?_
        refine j_aload_n (i := 0) (t := 30) C d_M_column_29 rfl rfl (by first | exact jrv_r | exact jrv_n | exact jrv_f) rfl ?_
        refine j_get (t := 33) C fl_M_86 d_M_column_30 M2.1 rfl rfl ?_
        refine j_iload_n (i := 1) (t := 34) C d_M_column_33 rfl rfl rfl ?_
        refine j_st_ty (i := g_cc s) (t := 35) C d_M_column_34 M2 (by exact r_cc) (by omega) rfl (fun w34 M34 => ?_)
        refine j_aload_n (i := 0) (t := 36) C d_M_column_35 rfl rfl (by first | exact jrv_r | exact jrv_n | exact jrv_f) rfl ?_
        refine j_dup (t := 37) C d_M_column_36 rfl rfl ?_
        refine j_get (t := 40) C fl_M_86 d_M_column_37 M34.1 rfl rfl ?_
        refine j_iconst (x := 1) (t := 41) C d_M_column_40 rfl rfl ?_
        refine j_iadd (t := 42) C d_M_column_41 rfl ?_
        rw [show mg_cc (mp_ty n (upd (mg_ty n) (g_cc s) ty)) = nI (g_cc s) from r_cc, nI_1]
        refine j_pt_cc (t := 45) C fp_M_86 d_M_column_42 M34 rfl (fun w42 M42 => ?_)
        refine j_aload_n (i := 0) (t := 46) C d_M_column_45 rfl rfl (by first | exact jrv_r | exact jrv_n | exact jrv_f) rfl ?_
        refine j_get (t := 49) C fl_M_86 d_M_column_46 M42.1 rfl rfl ?_
        refine j_iconst (x := 1) (t := 50) C d_M_column_49 rfl rfl ?_
        refine j_isub (t := 51) C d_M_column_50 rfl ?_
        exact j_iret C d_M_column_51 (by first | rfl | exact nar_b) (by
      unfold sp_column
      rw [if_pos ⟨hcc, h15, h20⟩]
      exact ⟨congrArg (fun z => some (Value.int z)) (nI_pred (g_cc s)), RepM.of M42 (relM_column hR hW hcc)⟩) (by omega) (by omega)
      · refine j_iconst (x := (-1)) (t := 24) C d_M_column_23 rfl rfl ?_
        exact j_iret C d_M_column_24 (by first | rfl | exact nar_b) (by
      have hn : ¬ (g_cc s < 16 ∧ ¬ ty < 0 ∧ ty ≤ 2) := by
        rintro ⟨z1, z2, z3⟩
        first
        | exact absurd ((nI_eq (by omega) (by omega)).mp h11) (by omega)
        | exact z2 h15
        | exact h20 z3
      unfold sp_column
      rw [if_neg hn]
      exact ⟨rfl, RepM.of M2 hR⟩) (by omega) (by omega)

set_option maxHeartbeats 4000000 in
set_option maxRecDepth 100000 in
/-- literal -/
theorem c_M_literal (l : Launch) (o : Nat) (s : jS) (ty : Int32) (v : Int64) : MC l y_M_literal b_M_literal 4 ((some .int)) 1 0 0
    (fun G w av => av = [.ref o, .int ty, .long v] ∧ RepM G w o s ∧ WF s)
    (fun G w av r w' => r = some (.int (sp_literal s ty v).1) ∧ RepM G w' o (sp_literal s ty v).2) := by
  refine MC.of 2 (by decide) ?_
  intro X w av hl C hnm hp
  obtain ⟨rfl, ⟨q, m, hM, hR⟩, hW⟩ := hp
  obtain ⟨wtn, wtp, wcc, wln, wsn, wzn, wcol, wlit, wst, wzt⟩ := id hW
  refine ⟨[(0, _), (1, _), (2, _)], rfl, Nat.le_of_ble_eq_true rfl, rfl, ?_⟩
  refine j_aload_n (i := 0) (t := 1) C d_M_literal_0 rfl rfl (by first | exact jrv_r | exact jrv_n | exact jrv_f) rfl ?_
  refine j_iconst (x := 0) (t := 2) C d_M_literal_1 rfl rfl ?_
  refine j_pt_cd (t := 5) C fp_M_79 d_M_literal_2 hM rfl (fun w2 M2 => ?_)
  obtain ⟨n, M2, hR⟩ : ∃ n : jM, MH (xG X) w2 o q n ∧ relM s n := ⟨_, M2, relM_cd hR⟩
  obtain ⟨⟨r_tn, r_tp⟩, ⟨r_cc, r_ln, r_sn, r_zn⟩, r_col, r_new, r_sz, r_lit, r_st, r_zt⟩ := id hR
  refine j_aload_n (i := 0) (t := 6) C d_M_literal_5 rfl rfl (by first | exact jrv_r | exact jrv_n | exact jrv_f) rfl ?_
  refine j_get (t := 9) C fl_M_101 d_M_literal_6 M2.1 rfl rfl ?_
  refine j_bipush (x := nI 64) (t := 11) C d_M_literal_9 rfl rfl ?_
  rw [r_ln]
  refine j_icmp_eq (tgt := 22) (t := 14) C d_M_literal_11 (by decide) rfl (fun h11 => ?_) (fun h11 => ?_)
  · refine j_iconst (x := (-1)) (t := 23) C d_M_literal_22 rfl rfl ?_
    exact j_iret C d_M_literal_23 (by first | rfl | exact nar_b) (by
      have hn : ¬ (g_ln s < 64 ∧ nO ty v = true) := by
        rintro ⟨z1, z2⟩
        first
        | exact absurd ((nI_eq (by omega) (by omega)).mp h11) (by omega)
        | exact absurd (z2.symm.trans (bI_0.mp h19)) (by decide)
      unfold sp_literal
      rw [if_neg hn]
      exact ⟨rfl, RepM.of M2 hR⟩) (by omega) (by omega)
  · refine j_iload_n (i := 1) (t := 15) C d_M_literal_14 rfl rfl rfl ?_
    refine j_lload_n (i := 2) (t := 16) C d_M_literal_15 rfl rfl rfl ?_
    refine j_callS (As := [_, _]) (t := 19) C (c_M_isValue _ ty v) d_M_literal_16 jb_M_isValue ml_M_93 st_M_isValue rfl (Nat.le_of_ble_eq_true rfl) (by decide) (by omega) (by omega) (rfl) rfl (fun r16 w16 p16 => ?_)
    obtain ⟨rfl, rfl⟩ := p16
    dsimp only [jst]
    refine j_if_ne (tgt := 24) (t := 22) C d_M_literal_19 (by decide) rfl (fun h19 => ?_) (fun h19 => ?_)
    · have hln : g_ln s < 64 := fne h11 wln
      rw [bI_0, Bool.not_eq_false] at h19
      refine j_aload_n (i := 0) (t := 25) C d_M_literal_24 rfl rfl (by first | exact jrv_r | exact jrv_n | exact jrv_f) rfl ?_
      refine j_get (t := 28) C fl_M_55 d_M_literal_25 M2.1 rfl rfl ?_
      refine j_aload_n (i := 0) (t := 29) C d_M_literal_28 rfl rfl (by first | exact jrv_r | exact jrv_n | exact jrv_f) rfl ?_
      refine j_get (t := 32) C fl_M_101 d_M_literal_29 M2.1 rfl rfl ?_
      refine j_iload_n (i := 1) (t := 33) C d_M_literal_32 rfl rfl rfl ?_
      refine j_st_lt (i := g_ln s) (t := 34) C d_M_literal_33 M2 (by exact r_ln) (by omega) rfl (fun w33 M33 => ?_)
      refine j_aload_n (i := 0) (t := 35) C d_M_literal_34 rfl rfl (by first | exact jrv_r | exact jrv_n | exact jrv_f) rfl ?_
      refine j_get (t := 38) C fl_M_13 d_M_literal_35 M33.1 rfl rfl ?_
      refine j_sipush (x := nI 17632) (t := 41) C d_M_literal_38 rfl rfl ?_
      refine j_aload_n (i := 0) (t := 42) C d_M_literal_41 rfl rfl (by first | exact jrv_r | exact jrv_n | exact jrv_f) rfl ?_
      refine j_get (t := 45) C fl_M_101 d_M_literal_42 M33.1 rfl rfl ?_
      refine j_iadd (t := 46) C d_M_literal_45 rfl ?_
      refine j_lload_n (i := 2) (t := 47) C d_M_literal_46 rfl rfl rfl ?_
      refine j_st_num (i := 17632 + g_ln s) (t := 48) C d_M_literal_47 M33 (by rw [show mg_ln (mp_lt n (upd (mg_lt n) (g_ln s) ty)) = nI (g_ln s) from r_ln, nI_add]) (by omega) rfl (fun w47 M47 => ?_)
      refine j_aload_n (i := 0) (t := 49) C d_M_literal_48 rfl rfl (by first | exact jrv_r | exact jrv_n | exact jrv_f) rfl ?_
      refine j_dup (t := 50) C d_M_literal_49 rfl rfl ?_
      refine j_get (t := 53) C fl_M_101 d_M_literal_50 M47.1 rfl rfl ?_
      refine j_iconst (x := 1) (t := 54) C d_M_literal_53 rfl rfl ?_
      refine j_iadd (t := 55) C d_M_literal_54 rfl ?_
      rw [show mg_ln (mp_num (mp_lt n (upd (mg_lt n) (g_ln s) ty)) (vp_updL (mg_num n) (17632 + g_ln s) v)) = nI (g_ln s) from r_ln, nI_1]
      refine j_pt_ln (t := 58) C fp_M_101 d_M_literal_55 M47 rfl (fun w55 M55 => ?_)
      refine j_aload_n (i := 0) (t := 59) C d_M_literal_58 rfl rfl (by first | exact jrv_r | exact jrv_n | exact jrv_f) rfl ?_
      refine j_get (t := 62) C fl_M_101 d_M_literal_59 M55.1 rfl rfl ?_
      refine j_iconst (x := 1) (t := 63) C d_M_literal_62 rfl rfl ?_
      refine j_isub (t := 64) C d_M_literal_63 rfl ?_
      exact j_iret C d_M_literal_64 (by first | rfl | exact nar_b) (by
      unfold sp_literal
      rw [if_pos ⟨hln, h19⟩]
      exact ⟨congrArg (fun z => some (Value.int z)) (nI_pred (g_ln s)), RepM.of M55 (relM_numlit hR hW hln h19)⟩) (by omega) (by omega)
    · refine j_iconst (x := (-1)) (t := 23) C d_M_literal_22 rfl rfl ?_
      exact j_iret C d_M_literal_23 (by first | rfl | exact nar_b) (by
      have hn : ¬ (g_ln s < 64 ∧ nO ty v = true) := by
        rintro ⟨z1, z2⟩
        first
        | exact absurd ((nI_eq (by omega) (by omega)).mp h11) (by omega)
        | exact absurd (z2.symm.trans (bI_0.mp h19)) (by decide)
      unfold sp_literal
      rw [if_neg hn]
      exact ⟨rfl, RepM.of M2 hR⟩) (by omega) (by omega)
