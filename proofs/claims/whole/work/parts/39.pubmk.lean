set_option maxHeartbeats 4000000 in
set_option maxRecDepth 100000 in
/-- can -/
theorem c_T_can (l : Launch) (o : Nat) (s : jS) : MC l y_T_can b_T_can 1 (some .int) 6 0 0
    (fun G w av => av = [.ref o] ∧ RepC G w o s ∧ WF s)
    (fun G w av r w' => r = some (.int (sp_can s)) ∧ RepC G w' o s) := by
  refine MC.of 99 (by decide) ?_
  intro X w av hl C hnm hp
  obtain ⟨rfl, hR, hW⟩ := hp
  obtain ⟨q, un, fc, ft, fl, fs, bs, fw, fr, fu, hRK⟩ := id hR
  obtain ⟨hG, ho, ⟨hac, hcc⟩, ⟨hat, hfit, htp⟩, ⟨hal, hlit⟩, ⟨has, hst⟩, haw, ⟨har, hzt⟩, ⟨hau, hun, hut⟩, hcol, hinj⟩ := id hRK
  obtain ⟨wtn, wtp, wcc, wln, wsn, wzn, wcol, wlit, wst, wzt⟩ := id hW
  refine ⟨[(0, _)], rfl, Nat.le_of_ble_eq_true rfl, rfl, ?_⟩
  refine j_aload_n (i := 0) (t := 1) C d_T_can_0 rfl rfl (by first | exact jrv_r | exact jrv_n | exact jrv_f) rfl ?_
  refine j_callV (As := []) (t := 4) C (c_T_isCondition _ o _ _ _ _ _ _ _ _ _ _ _ _ (g_sn s) fs bs (g_sk s)) d_T_can_1 jb_T_isCondition ml_T_117 jv_T_isCondition (by assumption) rfl rfl rfl (Nat.le_of_ble_eq_true rfl) (by decide) (by omega) (by omega) (⟨rfl, ho, has, wsn, (fun j hj => ⟨(hst j hj).1, _, (hst j hj).2, rfl⟩)⟩) rfl (fun r1 w1 p1 => ?_)
  obtain ⟨rfl, rfl⟩ := p1
  dsimp only [jst]
  refine j_if_eq (tgt := 15) (t := 7) C d_T_can_4 (by decide) rfl (fun h4 => ?_) (fun h4 => ?_)
  · refine j_iconst (x := (-1)) (t := 16) C d_T_can_15 rfl rfl ?_
    exact j_iret C d_T_can_16 rfl (by
      first
      | (rw [bI_0] at h4; exact ⟨by simp [sp_can, h4], hR⟩)
      | (refine ⟨by simp [sp_can, h4], q, un, fc, ft, fl, fs, bs, fw2, fr, fu, ?_⟩
         have hS : ∀ a ∈ [q 0 4], a = o ∨ ∃ i, i < 7 ∧ a = q 0 i := fun a ha => Or.inr ⟨4, by omega, List.mem_singleton.mp ha⟩
         obtain ⟨l1, l2⟩ := RK_kl hRK hS K9
         have n4 : ∀ i, i < 7 → i ≠ 4 → q 0 i ∉ [q 0 4] := fun i hi h4' hm => h4' (hinj 0 i 0 4 (vld0 hi) (vld0 (by omega)) (List.mem_singleton.mp hm)).2
         have no : o ∉ [q 0 4] := fun hm => by
           rw [List.mem_singleton.mp hm] at ho
           have z := jh_eq ho haw
           simp at z
         exact RK_mk hRK hS K9 (K9 _ _ no ho) ⟨K9 _ _ (n4 0 (by omega) (by omega)) hac, hcc⟩ ⟨K9 _ _ (n4 1 (by omega) (by omega)) hat, hfit, htp⟩ ⟨K9 _ _ (n4 2 (by omega) (by omega)) hal, l1⟩ ⟨K9 _ _ (n4 3 (by omega) (by omega)) has, l2⟩ hw2 ⟨K9 _ _ (n4 5 (by omega) (by omega)) har, hzt⟩ ⟨K9 _ _ (n4 6 (by omega) (by omega)) hau, hun, hut⟩ rfl (fun c _ => ⟨rfl, rfl, rfl, rfl, rfl, rfl, rfl, rfl, rfl⟩))) (by omega) (by omega)
  · rw [bI_0, Bool.not_eq_false] at h4
    refine j_aload_n (i := 0) (t := 8) C d_T_can_7 rfl rfl (by first | exact jrv_r | exact jrv_n | exact jrv_f) rfl ?_
    refine j_iconst (x := (-1)) (t := 9) C d_T_can_8 rfl rfl ?_
    refine j_callV (As := [_]) (t := 12) C (c_T_outcome _ o _ _ _ _ _ _ _ _ _ _ _ _ (g_sn s) fs fw bs (g_sk s) (cAt s) (-1)) d_T_can_9 jb_T_outcome ml_T_124 jv_T_outcome (by assumption) rfl rfl rfl (Nat.le_of_ble_eq_true rfl) (by decide) (by omega) (by omega) (⟨rfl, hG, ho, has, haw, wsn, h4, (fun j hj => ⟨(hst j hj).1, _, (hst j hj).2, rfl⟩), fun _ j hj h5 => step_can hRK hW hj h5, fun z => absurd rfl z⟩) rfl (fun r9 w9 p9 => ?_)
    obtain ⟨rfl, ⟨fw2, hw2⟩, K9, PK9⟩ := p9
    dsimp only [jst]
    refine j_goto (tgt := 16) C d_T_can_12 (by decide) ?_
    exact j_iret C d_T_can_16 rfl (by
      first
      | (rw [bI_0] at h4; exact ⟨by simp [sp_can, h4], hR⟩)
      | (refine ⟨by simp [sp_can, h4], q, un, fc, ft, fl, fs, bs, fw2, fr, fu, ?_⟩
         have hS : ∀ a ∈ [q 0 4], a = o ∨ ∃ i, i < 7 ∧ a = q 0 i := fun a ha => Or.inr ⟨4, by omega, List.mem_singleton.mp ha⟩
         obtain ⟨l1, l2⟩ := RK_kl hRK hS K9
         have n4 : ∀ i, i < 7 → i ≠ 4 → q 0 i ∉ [q 0 4] := fun i hi h4' hm => h4' (hinj 0 i 0 4 (vld0 hi) (vld0 (by omega)) (List.mem_singleton.mp hm)).2
         have no : o ∉ [q 0 4] := fun hm => by
           rw [List.mem_singleton.mp hm] at ho
           have z := jh_eq ho haw
           simp at z
         exact RK_mk hRK hS K9 (K9 _ _ no ho) ⟨K9 _ _ (n4 0 (by omega) (by omega)) hac, hcc⟩ ⟨K9 _ _ (n4 1 (by omega) (by omega)) hat, hfit, htp⟩ ⟨K9 _ _ (n4 2 (by omega) (by omega)) hal, l1⟩ ⟨K9 _ _ (n4 3 (by omega) (by omega)) has, l2⟩ hw2 ⟨K9 _ _ (n4 5 (by omega) (by omega)) har, hzt⟩ ⟨K9 _ _ (n4 6 (by omega) (by omega)) hau, hun, hut⟩ rfl (fun c _ => ⟨rfl, rfl, rfl, rfl, rfl, rfl, rfl, rfl, rfl⟩))) (by omega) (by omega)

set_option maxHeartbeats 4000000 in
set_option maxRecDepth 100000 in
/-- feed -/
theorem c_T_feed (l : Launch) (o : Nat) (s : jS) (x1 x2 x3 x4 x5 : Int32) : MC l y_T_feed b_T_feed 6 (some .boolean) 1 0 0
    (fun G w av => av = [.ref o, .int x1, .int x2, .int x3, .int x4, .int x5] ∧ RepC G w o s ∧ WF s)
    (fun G w av r w' => r = some (.int (sp_feed s x1 x2 x3 x4 x5).1) ∧ RepC G w' o (sp_feed s x1 x2 x3 x4 x5).2) := by
  refine MC.of 99 (by decide) ?_
  intro X w av hl C hnm hp
  obtain ⟨rfl, hR, hW⟩ := hp
  obtain ⟨q, un, fc, ft, fl, fs, bs, fw, fr, fu, hRK⟩ := id hR
  obtain ⟨hG, ho, ⟨hac, hcc⟩, ⟨hat, hfit, htp⟩, ⟨hal, hlit⟩, ⟨has, hst⟩, haw, ⟨har, hzt⟩, ⟨hau, hun, hut⟩, hcol, hinj⟩ := id hRK
  obtain ⟨wtn, wtp, wcc, wln, wsn, wzn, wcol, wlit, wst, wzt⟩ := id hW
  refine ⟨[(0, _), (1, _), (2, _), (3, _), (4, _), (5, _)], rfl, Nat.le_of_ble_eq_true rfl, rfl, ?_⟩
  refine j_aload_n (i := 0) (t := 1) C d_T_feed_0 rfl rfl (by first | exact jrv_r | exact jrv_n | exact jrv_f) rfl ?_
  refine j_get (t := 4) C fl_T_23 d_T_feed_1 (by assumption) (by first | rfl | assumption) rfl ?_
  refine j_sipush (x := 980) (t := 7) C d_T_feed_4 rfl rfl ?_
  refine j_icmp_le (tgt := 12) (t := 10) C d_T_feed_7 (by decide) rfl (fun h7 => ?_) (fun h7 => ?_)
  · have htn : g_tn s ≤ 980 := (nI_leI (b := 980) (by omega) (by omega)).mp h7
    refine j_aload_n (i := 0) (t := 13) C d_T_feed_12 rfl rfl (by first | exact jrv_r | exact jrv_n | exact jrv_f) rfl ?_
    refine j_iload_n (i := 1) (t := 14) C d_T_feed_13 rfl rfl rfl ?_
    refine j_callV (As := [_]) (t := 17) C (c_T_putOnTape _ o _ _ (q 0 1) _ _ _ _ _ _ _ _ _ (g_tn s) ft x1) d_T_feed_14 jb_T_putOnTape ml_T_60 jv_T_putOnTape (by assumption) rfl rfl rfl (Nat.le_of_ble_eq_true rfl) (by decide) (by omega) (by omega) (⟨rfl, ho, hat, by omega, hfit⟩) rfl (fun r14 w14 p14 => ?_)
    obtain ⟨rfl, o14, ⟨v14, t14, y14, l14, b14⟩, K14⟩ := p14
    dsimp only [jst]
    refine j_aload_n (i := 0) (t := 18) C d_T_feed_17 rfl rfl (by first | exact jrv_r | exact jrv_n | exact jrv_f) rfl ?_
    refine j_iload_n (i := 2) (t := 19) C d_T_feed_18 rfl rfl rfl ?_
    refine j_callV (As := [_]) (t := 22) C (c_T_putOnTape _ o _ _ (q 0 1) _ _ _ _ _ _ _ _ _ (g_tn s + 4) v14 x2) d_T_feed_19 jb_T_putOnTape ml_T_60 jv_T_putOnTape (by assumption) rfl rfl rfl (Nat.le_of_ble_eq_true rfl) (by decide) (by omega) (by omega) (⟨rfl, o14, t14, by omega, y14⟩) rfl (fun r19 w19 p19 => ?_)
    obtain ⟨rfl, o19, ⟨v19, t19, y19, l19, b19⟩, K19⟩ := p19
    dsimp only [jst]
    refine j_aload_n (i := 0) (t := 23) C d_T_feed_22 rfl rfl (by first | exact jrv_r | exact jrv_n | exact jrv_f) rfl ?_
    refine j_iload_n (i := 3) (t := 24) C d_T_feed_23 rfl rfl rfl ?_
    refine j_callV (As := [_]) (t := 27) C (c_T_putOnTape _ o _ _ (q 0 1) _ _ _ _ _ _ _ _ _ (g_tn s + 8) v19 x3) d_T_feed_24 jb_T_putOnTape ml_T_60 jv_T_putOnTape (by assumption) rfl rfl rfl (Nat.le_of_ble_eq_true rfl) (by decide) (by omega) (by omega) (⟨rfl, o19, t19, by omega, y19⟩) rfl (fun r24 w24 p24 => ?_)
    obtain ⟨rfl, o24, ⟨v24, t24, y24, l24, b24⟩, K24⟩ := p24
    dsimp only [jst]
    refine j_aload_n (i := 0) (t := 28) C d_T_feed_27 rfl rfl (by first | exact jrv_r | exact jrv_n | exact jrv_f) rfl ?_
    refine j_iload (t := 30) C d_T_feed_28 rfl rfl ?_
    refine j_callV (As := [_]) (t := 33) C (c_T_putOnTape _ o _ _ (q 0 1) _ _ _ _ _ _ _ _ _ (g_tn s + 12) v24 x4) d_T_feed_30 jb_T_putOnTape ml_T_60 jv_T_putOnTape (by assumption) rfl rfl rfl (Nat.le_of_ble_eq_true rfl) (by decide) (by omega) (by omega) (⟨rfl, o24, t24, by omega, y24⟩) rfl (fun r30 w30 p30 => ?_)
    obtain ⟨rfl, o30, ⟨v30, t30, y30, l30, b30⟩, K30⟩ := p30
    dsimp only [jst]
    refine j_aload_n (i := 0) (t := 34) C d_T_feed_33 rfl rfl (by first | exact jrv_r | exact jrv_n | exact jrv_f) rfl ?_
    refine j_iload (t := 36) C d_T_feed_34 rfl rfl ?_
    refine j_callV (As := [_]) (t := 39) C (c_T_putOnTape _ o _ _ (q 0 1) _ _ _ _ _ _ _ _ _ (g_tn s + 16) v30 x5) d_T_feed_36 jb_T_putOnTape ml_T_60 jv_T_putOnTape (by assumption) rfl rfl rfl (Nat.le_of_ble_eq_true rfl) (by decide) (by omega) (by omega) (⟨rfl, o30, t30, by omega, y30⟩) rfl (fun r36 w36 p36 => ?_)
    obtain ⟨rfl, o36, ⟨v36, t36, y36, l36, b36⟩, K36⟩ := p36
    dsimp only [jst]
    refine j_iconst (x := 1) (t := 40) C d_T_feed_39 rfl rfl ?_
    exact j_iret C d_T_feed_40 rfl (by
      refine ⟨by simp [sp_feed, htn], ?_⟩
      simp only [sp_feed, if_pos htn]
      have K := (((K14.tr K19 (fun a h => h)).tr K24 (fun a h => h)).tr K30 (fun a h => h)).tr K36 (fun a h => h)
      have hS : ∀ a ∈ [o, q 0 1], a = o ∨ ∃ i, i < 7 ∧ a = q 0 i := fun a ha => by
        rcases List.mem_cons.mp ha with z | z
        · exact Or.inl z
        · exact Or.inr ⟨1, by omega, List.mem_singleton.mp z⟩
      obtain ⟨l1, l2⟩ := RK_kl hRK hS K
      have n1 : ∀ {i e}, i < 7 → i ≠ 1 → jh _ (q 0 i) e → (∀ fs, e ≠ eO cT fs) → q 0 i ∉ [o, q 0 1] := fun {i e} hi h1 he hx hm => by
        rcases List.mem_cons.mp hm with z | z
        · exact hx _ (jh_eq he (by rw [z]; exact ho))
        · exact h1 (hinj 0 i 0 1 (vld0 hi) (vld0 (by omega)) (List.mem_singleton.mp z)).2
      refine ⟨q, un, fc, v36, fl, fs, bs, fw, fr, fu, RK_mk hRK hS K o36 ⟨K _ _ (n1 (by omega) (by omega) hac (fun _ z => by simp at z)) hac, hcc⟩ ⟨t36, y36, ?_⟩ ⟨K _ _ (n1 (by omega) (by omega) hal (fun _ z => by simp at z)) hal, l1⟩ ⟨K _ _ (n1 (by omega) (by omega) has (fun _ z => by simp at z)) has, l2⟩ (K _ _ (n1 (by omega) (by omega) haw (fun _ z => by simp at z)) haw) ⟨K _ _ (n1 (by omega) (by omega) har (fun _ z => by simp at z)) har, hzt⟩ ⟨K _ _ (n1 (by omega) (by omega) hau (fun _ z => by simp at z)) hau, hun, hut⟩ rfl (fun c _ => ⟨rfl, rfl, rfl, rfl, rfl, rfl, rfl, rfl, rfl⟩)⟩
      intro j hj
      have hj : j < g_tn s + 20 := hj
      show ub (v36 j) = if j < g_tn s then g_tp s j else fb x1 x2 x3 x4 x5 (j - g_tn s)
      by_cases q0 : j < g_tn s
      · rw [if_pos q0, l36 j (by omega), l30 j (by omega), l24 j (by omega), l19 j (by omega), l14 j (by omega)]
        exact htp j q0
      · rw [if_neg q0]
        obtain ⟨k, rfl⟩ : ∃ k, j = g_tn s + k := ⟨j - g_tn s, by omega⟩
        rw [show g_tn s + k - g_tn s = k by omega]
        unfold fb
        by_cases k1 : k < 4
        · rw [if_pos k1, l36 _ (by omega), l30 _ (by omega), l24 _ (by omega), l19 _ (by omega)]
          exact b14 k k1
        · rw [if_neg k1]
          by_cases k2 : k < 8
          · rw [if_pos k2, l36 _ (by omega), l30 _ (by omega), l24 _ (by omega), show g_tn s + k = g_tn s + 4 * 1 + (k - 4) by omega]
            exact b19 (k - 4) (by omega)
          · rw [if_neg k2]
            by_cases k3 : k < 12
            · rw [if_pos k3, l36 _ (by omega), l30 _ (by omega), show g_tn s + k = g_tn s + 4 * 2 + (k - 8) by omega]
              exact b24 (k - 8) (by omega)
            · rw [if_neg k3]
              by_cases k4 : k < 16
              · rw [if_pos k4, l36 _ (by omega), show g_tn s + k = g_tn s + 4 * 3 + (k - 12) by omega]
                exact b30 (k - 12) (by omega)
              · rw [if_neg k4, show g_tn s + k = g_tn s + 4 * 4 + (k - 16) by omega]
                exact b36 (k - 16) (by omega)) (by omega) (by omega)
  · refine j_iconst (x := 0) (t := 11) C d_T_feed_10 rfl rfl ?_
    exact j_iret C d_T_feed_11 rfl (by have hno : ¬ g_tn s ≤ 980 := (fun z => h7 (nI_le (b := 980) z (by omega))); exact ⟨by simp [sp_feed, hno], by simp only [sp_feed, if_neg hno]; exact hR⟩) (by omega) (by omega)
