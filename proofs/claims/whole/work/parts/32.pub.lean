set_option maxHeartbeats 4000000 in
set_option maxRecDepth 100000 in
/-- forget -/
theorem c_T_forget (l : Launch) (o : Nat) (s : jS) : MC l y_T_forget b_T_forget 1 (none) 0 0 0
    (fun G w av => av = [.ref o] ∧ RepC G w o s ∧ WF s)
    (fun G w av r w' => r = none ∧ RepC G w' o (sp_forget s)) := by
  refine MC.of 99 (by decide) ?_
  intro X w av hl C hnm hp
  obtain ⟨rfl, hR, hW⟩ := hp
  obtain ⟨q, un, fc, ft, fl, fs, bs, fw, fr, fu, hRK⟩ := id hR
  obtain ⟨hG, ho, ⟨hac, hcc⟩, ⟨hat, hfit, htp⟩, ⟨hal, hlit⟩, ⟨has, hst⟩, haw, ⟨har, hzt⟩, ⟨hau, hun, hut⟩, hcol, hinj⟩ := id hRK
  obtain ⟨wtn, wtp, wcc, wln, wsn, wzn, wcol, wlit, wst, wzt⟩ := id hW
  refine ⟨[(0, _)], rfl, Nat.le_of_ble_eq_true rfl, rfl, ?_⟩
  refine j_aload_n (i := 0) (t := 1) C d_T_forget_0 rfl rfl (by first | exact jrv_r | exact jrv_n | exact jrv_f) rfl ?_
  refine j_iconst (x := 0) (t := 2) C d_T_forget_1 rfl rfl ?_
  refine j_putW (t := 5) C fp_T_41 d_T_forget_2 (by assumption) (by first | rfl | exact jnar_rf) (by first | rfl | exact jfit_rf) (by first | exact Nat.le_of_ble_eq_true rfl | (simp only [List.length_set]; omega)) rfl (fun w2 e2 h2 f2 => ?_)
  refine j_aload_n (i := 0) (t := 6) C d_T_forget_5 rfl rfl (by first | exact jrv_r | exact jrv_n | exact jrv_f) rfl ?_
  refine j_iconst (x := 0) (t := 7) C d_T_forget_6 rfl rfl ?_
  refine j_putW (t := 10) C fp_T_32 d_T_forget_7 (by assumption) (by first | rfl | exact jnar_rf) (by first | rfl | exact jfit_rf) (by first | exact Nat.le_of_ble_eq_true rfl | (simp only [List.length_set]; omega)) rfl (fun w7 e7 h7 f7 => ?_)
  exact j_vret C d_T_forget_10 (⟨rfl, q, un, fc, ft, fl, fs, bs, fw, fr, fu, RK_o hRK (t := sp_forget s) ((KA.rf.put f2 (by simp)).put f7 (by simp)) h7 rfl rfl (fun j hj => absurd hj (Nat.not_lt_zero _)) (fun j hj => absurd hj (Nat.not_lt_zero _)) htp hzt hun hut (fun c _ => ⟨rfl, rfl, rfl, rfl, rfl, rfl, rfl, rfl, rfl⟩)⟩) (by omega) (by omega)

set_option maxHeartbeats 4000000 in
set_option maxRecDepth 100000 in
/-- truth -/
theorem c_T_truth (l : Launch) (o : Nat) (s : jS) (x : Int32) : MC l y_T_truth b_T_truth 2 (some .int) 0 0 0
    (fun G w av => av = [.ref o, .int x] ∧ RepC G w o s ∧ WF s)
    (fun G w av r w' => w' = w ∧ r = some (.int (sp_truth s x))) := by
  refine MC.of 99 (by decide) ?_
  intro X w av hl C hnm hp
  obtain ⟨rfl, hR, hW⟩ := hp
  obtain ⟨q, un, fc, ft, fl, fs, bs, fw, fr, fu, hRK⟩ := id hR
  obtain ⟨hG, ho, ⟨hac, hcc⟩, ⟨hat, hfit, htp⟩, ⟨hal, hlit⟩, ⟨has, hst⟩, haw, ⟨har, hzt⟩, ⟨hau, hun, hut⟩, hcol, hinj⟩ := id hRK
  obtain ⟨wtn, wtp, wcc, wln, wsn, wzn, wcol, wlit, wst, wzt⟩ := id hW
  refine ⟨[(0, _), (1, _)], rfl, Nat.le_of_ble_eq_true rfl, rfl, ?_⟩
  refine j_iload_n (i := 1) (t := 1) C d_T_truth_0 rfl rfl rfl ?_
  refine j_if_lt (tgt := 12) (t := 4) C d_T_truth_1 (by decide) rfl (fun h1 => ?_) (fun h1 => ?_)
  · refine j_iconst (x := (-1)) (t := 13) C d_T_truth_12 rfl rfl ?_
    exact j_iret C d_T_truth_13 rfl (⟨rfl, by unfold sp_truth; first | rw [if_pos (Or.inl h1)] | rw [if_pos (Or.inr (by simpa using h9))]⟩) (by omega) (by omega)
  · refine j_iload_n (i := 1) (t := 5) C d_T_truth_4 rfl rfl rfl ?_
    refine j_aload_n (i := 0) (t := 6) C d_T_truth_5 rfl rfl (by first | exact jrv_r | exact jrv_n | exact jrv_f) rfl ?_
    refine j_get (t := 9) C fl_T_51 d_T_truth_6 (by assumption) (by first | rfl | assumption) rfl ?_
    refine j_icmp_lt (tgt := 14) (t := 12) C d_T_truth_9 (by decide) rfl (fun h9 => ?_) (fun h9 => ?_)
    · refine j_aload_n (i := 0) (t := 15) C d_T_truth_14 rfl rfl (by first | exact jrv_r | exact jrv_n | exact jrv_f) rfl ?_
      refine j_get (t := 18) C fl_T_48 d_T_truth_15 (by assumption) (by first | rfl | assumption) rfl ?_
      refine j_iload_n (i := 1) (t := 19) C d_T_truth_18 rfl rfl rfl ?_
      obtain ⟨j, hj, rfl⟩ := nI_of h1
      have hjz : j < g_zn s := (nI_ltI hj (by omega)).mp (by simpa using h9)
      have hin : vp_in (nI j) 1000 := vp_in_nI (by omega) (by omega)
      refine j_iaload (t := 20) C d_T_truth_19 (by assumption) (by assumption) rfl ?_
      refine j_iconst (x := 1) (t := 21) C d_T_truth_20 rfl rfl ?_
      refine j_ishr (t := 22) C d_T_truth_21 rfl ?_
      exact j_iret C d_T_truth_22 rfl (⟨rfl, by unfold sp_truth; rw [if_neg (fun z => z.elim h1 (fun z2 => absurd ((nI_leI (by omega) (by omega)).mp z2) (by omega))), nI_clamp (by omega), hzt j hjz]; rcases wzt j hjz with z | z | z <;> rw [z] <;> rfl⟩) (by omega) (by omega)
    · refine j_iconst (x := (-1)) (t := 13) C d_T_truth_12 rfl rfl ?_
      exact j_iret C d_T_truth_13 rfl (⟨rfl, by unfold sp_truth; first | rw [if_pos (Or.inl h1)] | rw [if_pos (Or.inr (by simpa using h9))]⟩) (by omega) (by omega)

set_option maxHeartbeats 4000000 in
set_option maxRecDepth 100000 in
/-- chosen -/
theorem c_T_chosen (l : Launch) (o : Nat) (s : jS) (x : Int32) : MC l y_T_chosen b_T_chosen 2 (some .int) 0 0 0
    (fun G w av => av = [.ref o, .int x] ∧ RepC G w o s ∧ WF s)
    (fun G w av r w' => w' = w ∧ r = some (.int (sp_chosen s x))) := by
  refine MC.of 99 (by decide) ?_
  intro X w av hl C hnm hp
  obtain ⟨rfl, hR, hW⟩ := hp
  obtain ⟨q, un, fc, ft, fl, fs, bs, fw, fr, fu, hRK⟩ := id hR
  obtain ⟨hG, ho, ⟨hac, hcc⟩, ⟨hat, hfit, htp⟩, ⟨hal, hlit⟩, ⟨has, hst⟩, haw, ⟨har, hzt⟩, ⟨hau, hun, hut⟩, hcol, hinj⟩ := id hRK
  obtain ⟨wtn, wtp, wcc, wln, wsn, wzn, wcol, wlit, wst, wzt⟩ := id hW
  have hunz : un ≤ 1000 := by rw [hun]; exact Nat.le_trans (cnt_le _) wzn
  refine ⟨[(0, _), (1, _)], rfl, Nat.le_of_ble_eq_true rfl, rfl, ?_⟩
  refine j_iload_n (i := 1) (t := 1) C d_T_chosen_0 rfl rfl rfl ?_
  refine j_if_lt (tgt := 12) (t := 4) C d_T_chosen_1 (by decide) rfl (fun h1 => ?_) (fun h1 => ?_)
  · refine j_iconst (x := (-1)) (t := 13) C d_T_chosen_12 rfl rfl ?_
    refine j_goto (tgt := 22) C d_T_chosen_13 (by decide) ?_
    exact j_iret C d_T_chosen_22 rfl (by first | exact ⟨rfl, by unfold sp_chosen; rw [if_pos h1]⟩ | exact ⟨rfl, by unfold sp_chosen; rw [if_neg h1, nI_clamp (by omega), kthN_some hz2 hcn hr1, hfu]⟩ | exact ⟨rfl, by unfold sp_chosen; rw [if_neg h1]; obtain ⟨j, hj, rfl⟩ := nI_of h1; rw [nI_clamp hj, kthN_none (by rw [← hun]; exact (nI_leI (by omega) hj).mp (by simpa using h9))]⟩) (by omega) (by omega)
  · refine j_iload_n (i := 1) (t := 5) C d_T_chosen_4 rfl rfl rfl ?_
    refine j_aload_n (i := 0) (t := 6) C d_T_chosen_5 rfl rfl (by first | exact jrv_r | exact jrv_n | exact jrv_f) rfl ?_
    refine j_get (t := 9) C fl_T_57 d_T_chosen_6 (by assumption) (by first | rfl | assumption) rfl ?_
    refine j_icmp_lt (tgt := 16) (t := 12) C d_T_chosen_9 (by decide) rfl (fun h9 => ?_) (fun h9 => ?_)
    · refine j_aload_n (i := 0) (t := 17) C d_T_chosen_16 rfl rfl (by first | exact jrv_r | exact jrv_n | exact jrv_f) rfl ?_
      refine j_get (t := 20) C fl_T_54 d_T_chosen_17 (by assumption) (by first | rfl | assumption) rfl ?_
      refine j_iload_n (i := 1) (t := 21) C d_T_chosen_20 rfl rfl rfl ?_
      obtain ⟨j, hj, rfl⟩ := nI_of h1
      have hjz : j < un := (nI_ltI hj (by omega)).mp (by simpa using h9)
      have hin : vp_in (nI j) 1000 := vp_in_nI (by omega) (by omega)
      obtain ⟨r1, hr1, hfu, hz2, hcn⟩ := hut j hjz
      refine j_iaload (t := 22) C d_T_chosen_21 (by assumption) (by assumption) rfl ?_
      exact j_iret C d_T_chosen_22 rfl (by first | exact ⟨rfl, by unfold sp_chosen; rw [if_pos h1]⟩ | exact ⟨rfl, by unfold sp_chosen; rw [if_neg h1, nI_clamp (by omega), kthN_some hz2 hcn hr1, hfu]⟩ | exact ⟨rfl, by unfold sp_chosen; rw [if_neg h1]; obtain ⟨j, hj, rfl⟩ := nI_of h1; rw [nI_clamp hj, kthN_none (by rw [← hun]; exact (nI_leI (by omega) hj).mp (by simpa using h9))]⟩) (by omega) (by omega)
    · refine j_iconst (x := (-1)) (t := 13) C d_T_chosen_12 rfl rfl ?_
      refine j_goto (tgt := 22) C d_T_chosen_13 (by decide) ?_
      exact j_iret C d_T_chosen_22 rfl (by first | exact ⟨rfl, by unfold sp_chosen; rw [if_pos h1]⟩ | exact ⟨rfl, by unfold sp_chosen; rw [if_neg h1, nI_clamp (by omega), kthN_some hz2 hcn hr1, hfu]⟩ | exact ⟨rfl, by unfold sp_chosen; rw [if_neg h1]; obtain ⟨j, hj, rfl⟩ := nI_of h1; rw [nI_clamp hj, kthN_none (by rw [← hun]; exact (nI_leI (by omega) hj).mp (by simpa using h9))]⟩) (by omega) (by omega)

set_option maxHeartbeats 4000000 in
set_option maxRecDepth 100000 in
/-- clear -/
theorem c_T_clear (l : Launch) (o : Nat) (s : jS) (x : Int32) : MC l y_T_clear b_T_clear 3 (some .boolean) 1 0 0
    (fun G w av => av = [.ref o, .int x] ∧ RepC G w o s ∧ WF s)
    (fun G w av r w' => r = some (.int (sp_clear s x).1) ∧ RepC G w' o (sp_clear s x).2) := by
  refine MC.of 99 (by decide) ?_
  intro X w av hl C hnm hp
  obtain ⟨rfl, hR, hW⟩ := hp
  obtain ⟨q, un, fc, ft, fl, fs, bs, fw, fr, fu, hRK⟩ := id hR
  obtain ⟨hG, ho, ⟨hac, hcc⟩, ⟨hat, hfit, htp⟩, ⟨hal, hlit⟩, ⟨has, hst⟩, haw, ⟨har, hzt⟩, ⟨hau, hun, hut⟩, hcol, hinj⟩ := id hRK
  obtain ⟨wtn, wtp, wcc, wln, wsn, wzn, wcol, wlit, wst, wzt⟩ := id hW
  refine ⟨[(0, _), (1, _)], rfl, Nat.le_of_ble_eq_true rfl, rfl, ?_⟩
  refine j_aload_n (i := 0) (t := 1) C d_T_clear_0 rfl rfl (by first | exact jrv_r | exact jrv_n | exact jrv_f) rfl ?_
  refine j_iload_n (i := 1) (t := 2) C d_T_clear_1 rfl rfl rfl ?_
  refine j_callV (As := [_]) (t := 5) C (c_T_columnAt _ o (q 0 0) _ (g_cc s) fc x) d_T_clear_2 jb_T_columnAt ml_T_66 jv_T_columnAt (by assumption) rfl rfl rfl (Nat.le_of_ble_eq_true rfl) (by decide) (by omega) (by omega) (⟨rfl, ho, rfl, rfl, hac, wcc⟩) rfl (fun r2 w2 p2 => ?_)
  obtain ⟨rfl, rfl⟩ := p2
  dsimp only [jst]
  rw [vAt_cix wcc hcc]
  refine j_astore_n (i := 2) (t := 6) (lv' := [(0, _), (1, _), (2, _)]) C d_T_clear_5 rfl (by first | exact jrv_r | exact jrv_n | exact jrv_f) (by decide) (by decide) rfl rfl ?_
  refine j_aload_n (i := 2) (t := 7) C d_T_clear_6 rfl rfl (by first | exact jrv_r | exact jrv_n | exact jrv_f) rfl ?_
  refine j_ifnonnull (tgt := 12) (t := 10) C d_T_clear_7 (by decide) rfl (fun a7 h7 => ?_) (fun h7 => ?_)
  · obtain ⟨c, hcx, rfl⟩ := Option.map_eq_some_iff.mp h7
    obtain ⟨hc, hxc⟩ := cix_some wcc hcx
    obtain ⟨fr1, kr1, km1, lA, hA, fe, ec1, fs1, k1, k2, k3, k4, k5, k6⟩ := hcol c hc
    obtain ⟨y1, y2, y3, y4, y5⟩ := wcol c hc
    refine j_lv (lv' := [(0, .ref o), (1, .int x), (2, .ref (q 1 c))]) (by rw [hcx]; rfl) rfl ?_
    refine j_aload_n (i := 2) (t := 13) C d_T_clear_12 rfl rfl (by first | exact jrv_r | exact jrv_n | exact jrv_f) rfl ?_
    refine j_callV (As := []) (t := 16) C (c_C_removeRows _ (q 1 c) (q 2 c) _ _ _ _ _ _ _ _ _ _ _) d_T_clear_13 jb_C_removeRows ml_T_103 jv_C_removeRows (by assumption) rfl rfl rfl (Nat.le_of_ble_eq_true rfl) (by decide) (by omega) (by omega) (⟨rfl, k1⟩) rfl (fun r13 w13 p13 => ?_)
    obtain ⟨rfl, g13, K13⟩ := p13
    dsimp only [jst]
    refine j_iconst (x := 1) (t := 17) C d_T_clear_16 rfl rfl ?_
    exact j_iret C d_T_clear_17 rfl (⟨by simp [sp_clear, hcx], by
      simp only [sp_clear, hcx]
      have hne : ∀ k, k = 2 ∨ k = 3 ∨ k = 4 → q k c ∉ [q 1 c] := fun k hk z => by
        have z := (hinj k c 1 c (vldc (by omega) (by omega) hc) (vldc (by omega) (by omega) hc) (List.mem_singleton.mp z)).1
        omega
      refine ⟨q, un, fc, ft, fl, fs, bs, fw, fr, fu, RK_col hRK hc ⟨rfl, rfl, rfl, rfl, rfl, rfl, rfl, rfl, rfl, rfl, rfl, rfl, rfl⟩ (fun c2 hn => ⟨rfl, (va_up_ne _ _ hn).symm, rfl, rfl, rfl, rfl, rfl, rfl, rfl⟩) K13 (MS.cons k1 mE_C (fun _ => mS_C) MS.nil) (fun a ha => ⟨1, by omega, by omega, List.mem_singleton.mp ha⟩) ?_⟩
      have hM : MU (xG X) _ [q 1 c] := MU.cons k1 mE_C MU.nil
      refine ⟨fr1, kr1, km1, lA, hA, fe, ec1, fs1, ?_, K13 _ _ (hne 2 (by omega)) k2, fun j hj => ?_, K13 _ _ (hne 3 (by omega)) k4, K13 _ _ (hne 4 (by omega)) k5, fun hk => ?_⟩
      · show jh _ (q 1 c) (eO cC (kFs (g_ty s c) (q 2 c) (nI (va_up (g_rc s) c 0 c)) (nI (tsum (g_rf s c) (va_up (g_rc s) c 0 c))) (bI (g_kn s c)) kr1 km1 lA hA (q 3 c) ec1 (q 4 c)))
        rw [va_up_self]
        exact g13
      · have hj : j < va_up (g_rc s) c 0 c := hj
        rw [va_up_self] at hj
        exact absurd hj (Nat.not_lt_zero _)
      · obtain ⟨b1, b2, b3, b4, b5, b6⟩ := k6 hk
        refine ⟨b1, b2, b3, fun j hj => ?_, isO_keep K13 hM b5, isO_keep K13 hM b6⟩
        obtain ⟨b, c1, c2⟩ := b4 j hj
        exact ⟨b, c1, isV_keep K13 hM c2⟩⟩) (by omega) (by omega)
  · have hcn : cix s x = none := Option.map_eq_none_iff.mp h7
    refine j_iconst (x := 0) (t := 11) C d_T_clear_10 rfl rfl ?_
    exact j_iret C d_T_clear_11 rfl (⟨by simp [sp_clear, hcn], by simp only [sp_clear, hcn]; exact hR⟩) (by omega) (by omega)

set_option maxHeartbeats 4000000 in
set_option maxRecDepth 100000 in
/-- unknown -/
theorem c_T_unknown (l : Launch) (o : Nat) (s : jS) (x : Int32) : MC l y_T_unknown b_T_unknown 3 (some .boolean) 1 0 0
    (fun G w av => av = [.ref o, .int x] ∧ RepC G w o s ∧ WF s)
    (fun G w av r w' => r = some (.int (sp_unknown s x).1) ∧ RepC G w' o (sp_unknown s x).2) := by
  refine MC.of 99 (by decide) ?_
  intro X w av hl C hnm hp
  obtain ⟨rfl, hR, hW⟩ := hp
  obtain ⟨q, un, fc, ft, fl, fs, bs, fw, fr, fu, hRK⟩ := id hR
  obtain ⟨hG, ho, ⟨hac, hcc⟩, ⟨hat, hfit, htp⟩, ⟨hal, hlit⟩, ⟨has, hst⟩, haw, ⟨har, hzt⟩, ⟨hau, hun, hut⟩, hcol, hinj⟩ := id hRK
  obtain ⟨wtn, wtp, wcc, wln, wsn, wzn, wcol, wlit, wst, wzt⟩ := id hW
  refine ⟨[(0, _), (1, _)], rfl, Nat.le_of_ble_eq_true rfl, rfl, ?_⟩
  refine j_aload_n (i := 0) (t := 1) C d_T_unknown_0 rfl rfl (by first | exact jrv_r | exact jrv_n | exact jrv_f) rfl ?_
  refine j_iload_n (i := 1) (t := 2) C d_T_unknown_1 rfl rfl rfl ?_
  refine j_callV (As := [_]) (t := 5) C (c_T_columnAt _ o (q 0 0) _ (g_cc s) fc x) d_T_unknown_2 jb_T_columnAt ml_T_66 jv_T_columnAt (by assumption) rfl rfl rfl (Nat.le_of_ble_eq_true rfl) (by decide) (by omega) (by omega) (⟨rfl, ho, rfl, rfl, hac, wcc⟩) rfl (fun r2 w2 p2 => ?_)
  obtain ⟨rfl, rfl⟩ := p2
  dsimp only [jst]
  rw [vAt_cix wcc hcc]
  refine j_astore_n (i := 2) (t := 6) (lv' := [(0, _), (1, _), (2, _)]) C d_T_unknown_5 rfl (by first | exact jrv_r | exact jrv_n | exact jrv_f) (by decide) (by decide) rfl rfl ?_
  refine j_aload_n (i := 2) (t := 7) C d_T_unknown_6 rfl rfl (by first | exact jrv_r | exact jrv_n | exact jrv_f) rfl ?_
  refine j_ifnonnull (tgt := 12) (t := 10) C d_T_unknown_7 (by decide) rfl (fun a7 h7 => ?_) (fun h7 => ?_)
  · obtain ⟨c, hcx, rfl⟩ := Option.map_eq_some_iff.mp h7
    obtain ⟨hc, hxc⟩ := cix_some wcc hcx
    obtain ⟨fr1, kr1, km1, lA, hA, fe, ec1, fs1, k1, k2, k3, k4, k5, k6⟩ := hcol c hc
    obtain ⟨y1, y2, y3, y4, y5⟩ := wcol c hc
    refine j_lv (lv' := [(0, .ref o), (1, .int x), (2, .ref (q 1 c))]) (by rw [hcx]; rfl) rfl ?_
    refine j_aload_n (i := 2) (t := 13) C d_T_unknown_12 rfl rfl (by first | exact jrv_r | exact jrv_n | exact jrv_f) rfl ?_
    refine j_iconst (x := 0) (t := 14) C d_T_unknown_13 rfl rfl ?_
    refine j_putW (t := 17) C fp_T_136 d_T_unknown_14 (by assumption) (by first | rfl | exact jnar_rf) (by first | rfl | exact jfit_rf) (by first | exact Nat.le_of_ble_eq_true rfl | (simp only [List.length_set]; omega)) rfl (fun w14 e14 h14 f14 => ?_)
    refine j_iconst (x := 1) (t := 18) C d_T_unknown_17 rfl rfl ?_
    exact j_iret C d_T_unknown_18 rfl (⟨by simp [sp_unknown, hcx], by
      simp only [sp_unknown, hcx]
      have K13 := KA.rf.put (S := [q 1 c]) f14 (by simp)
      have hne : ∀ k, k = 2 ∨ k = 3 ∨ k = 4 → q k c ∉ [q 1 c] := fun k hk z => by
        have z := (hinj k c 1 c (vldc (by omega) (by omega) hc) (vldc (by omega) (by omega) hc) (List.mem_singleton.mp z)).1
        omega
      refine ⟨q, un, fc, ft, fl, fs, bs, fw, fr, fu, RK_col hRK hc ⟨rfl, rfl, rfl, rfl, rfl, rfl, rfl, rfl, rfl, rfl, rfl, rfl, rfl⟩ (fun c2 hn => ⟨rfl, rfl, rfl, (va_up_ne _ _ hn).symm, rfl, rfl, rfl, rfl, rfl⟩) K13 (MS.cons k1 mE_C (fun _ => mS_C) MS.nil) (fun a ha => ⟨1, by omega, by omega, List.mem_singleton.mp ha⟩) ?_⟩
      have hM : MU (xG X) _ [q 1 c] := MU.cons k1 mE_C MU.nil
      refine ⟨fr1, kr1, km1, lA, hA, fe, ec1, fs1, ?_, K13 _ _ (hne 2 (by omega)) k2, fun j hj => isO_keep K13 hM (k3 j hj), K13 _ _ (hne 3 (by omega)) k4, K13 _ _ (hne 4 (by omega)) k5, fun hk => ?_⟩
      · show jh _ (q 1 c) (eO cC (kFs (g_ty s c) (q 2 c) (nI (g_rc s c)) (nI (tsum (g_rf s c) (g_rc s c))) (bI (va_up (g_kn s) c false c)) kr1 km1 lA hA (q 3 c) ec1 (q 4 c)))
        rw [va_up_self]
        exact h14
      · have hk : va_up (g_kn s) c false c = true := hk
        rw [va_up_self] at hk
        cases hk⟩) (by omega) (by omega)
  · have hcn : cix s x = none := Option.map_eq_none_iff.mp h7
    refine j_iconst (x := 0) (t := 11) C d_T_unknown_10 rfl rfl ?_
    exact j_iret C d_T_unknown_11 rfl (⟨by simp [sp_unknown, hcn], by simp only [sp_unknown, hcn]; exact hR⟩) (by omega) (by omega)
