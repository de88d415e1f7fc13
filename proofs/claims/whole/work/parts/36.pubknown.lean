set_option maxHeartbeats 4000000 in
set_option maxRecDepth 100000 in
/-- known -/
theorem c_T_known (l : Launch) (o : Nat) (s : jS) (x rows ms1 : Int32) : MC l y_T_known b_T_known 5 (some .boolean) 2 0 0
    (fun G w av => av = [.ref o, .int x, .int rows, .int ms1] ∧ RepC G w o s ∧ WF s)
    (fun G w av r w' => r = some (.int (sp_known s x rows ms1).1) ∧ RepC G w' o (sp_known s x rows ms1).2) := by
  refine MC.of 99 (by decide) ?_
  intro X w av hl C hnm hp
  obtain ⟨rfl, hR, hW⟩ := hp
  obtain ⟨q, un, fc, ft, fl, fs, bs, fw, fr, fu, hRK⟩ := id hR
  obtain ⟨hG, ho, ⟨hac, hcc⟩, ⟨hat, hfit, htp⟩, ⟨hal, hlit⟩, ⟨has, hst⟩, haw, ⟨har, hzt⟩, ⟨hau, hun, hut⟩, hcol, hinj⟩ := id hRK
  obtain ⟨wtn, wtp, wcc, wln, wsn, wzn, wcol, wlit, wst, wzt⟩ := id hW
  refine ⟨[(0, _), (1, _), (2, _), (3, _)], rfl, Nat.le_of_ble_eq_true rfl, rfl, ?_⟩
  refine j_aload_n (i := 0) (t := 1) C d_T_known_0 rfl rfl (by first | exact jrv_r | exact jrv_n | exact jrv_f) rfl ?_
  refine j_iload_n (i := 1) (t := 2) C d_T_known_1 rfl rfl rfl ?_
  refine j_callV (As := [_]) (t := 5) C (c_T_columnAt _ o (q 0 0) _ (g_cc s) fc x) d_T_known_2 jb_T_columnAt ml_T_66 jv_T_columnAt (by assumption) rfl rfl rfl (Nat.le_of_ble_eq_true rfl) (by decide) (by omega) (by omega) (⟨rfl, ho, rfl, rfl, hac, wcc⟩) rfl (fun r2 w2 p2 => ?_)
  obtain ⟨rfl, rfl⟩ := p2
  dsimp only [jst]
  rw [vAt_cix wcc hcc]
  refine j_astore (i := 4) (t := 7) (lv' := [(0, _), (1, _), (2, _), (3, _), (4, _)]) C d_T_known_5 (by first | exact jrv_r | exact jrv_n | exact jrv_f) (by decide) (by decide) rfl rfl ?_
  refine j_aload (t := 9) C d_T_known_7 rfl (by first | exact jrv_r | exact jrv_n | exact jrv_f) rfl ?_
  refine j_ifnull (tgt := 27) (t := 12) C d_T_known_9 (by decide) rfl (fun h9 => ?_) (fun a9 h9 => ?_)
  · refine j_iconst (x := 0) (t := 28) C d_T_known_27 rfl rfl ?_
    exact j_iret C d_T_known_28 rfl (by first | (have hcn : cix s x = none := Option.map_eq_none_iff.mp h9; exact ⟨by simp [sp_known, hcn], by simp only [sp_known, hcn]; exact hR⟩) | (have hno : ¬ ((¬ ms1 < 0 ∧ ms1 ≤ rows ∧ rows ≤ 1000000) ∧ ¬ (mnR (g_rf s c) (g_rc s c) = none ∧ ms1 < rows)) := fun z => z.1.1 h13; exact ⟨by simp only [sp_known, hcx, if_neg hno], by simp only [sp_known, hcx, if_neg hno]; exact hR⟩) | (have hno : ¬ ((¬ ms1 < 0 ∧ ms1 ≤ rows ∧ rows ≤ 1000000) ∧ ¬ (mnR (g_rf s c) (g_rc s c) = none ∧ ms1 < rows)) := fun z => absurd z.1.2.1 (Int32.not_le.mpr h18); exact ⟨by simp only [sp_known, hcx, if_neg hno], by simp only [sp_known, hcx, if_neg hno]; exact hR⟩) | (have hno : ¬ ((¬ ms1 < 0 ∧ ms1 ≤ rows ∧ rows ≤ 1000000) ∧ ¬ (mnR (g_rf s c) (g_rc s c) = none ∧ ms1 < rows)) := fun z => h24 z.1.2.2; exact ⟨by simp only [sp_known, hcx, if_neg hno], by simp only [sp_known, hcx, if_neg hno]; exact hR⟩)) (by omega) (by omega)
  · obtain ⟨c, hcx, rfl⟩ := Option.map_eq_some_iff.mp h9
    obtain ⟨hc, hxc⟩ := cix_some wcc hcx
    obtain ⟨fr1, kr1, km1, lA, hA, fe, ec1, fs1, k1, k2, k3, k4, k5, k6⟩ := hcol c hc
    obtain ⟨y1, y2, y3, y4, y5⟩ := wcol c hc
    refine j_lv (lv' := [(0, .ref o), (1, .int x), (2, .int rows), (3, .int ms1), (4, .ref (q 1 c))]) (by rw [hcx]; rfl) rfl ?_
    refine j_iload_n (i := 3) (t := 13) C d_T_known_12 rfl rfl rfl ?_
    refine j_if_lt (tgt := 27) (t := 16) C d_T_known_13 (by decide) rfl (fun h13 => ?_) (fun h13 => ?_)
    · refine j_iconst (x := 0) (t := 28) C d_T_known_27 rfl rfl ?_
      exact j_iret C d_T_known_28 rfl (by first | (have hcn : cix s x = none := Option.map_eq_none_iff.mp h9; exact ⟨by simp [sp_known, hcn], by simp only [sp_known, hcn]; exact hR⟩) | (have hno : ¬ ((¬ ms1 < 0 ∧ ms1 ≤ rows ∧ rows ≤ 1000000) ∧ ¬ (mnR (g_rf s c) (g_rc s c) = none ∧ ms1 < rows)) := fun z => z.1.1 h13; exact ⟨by simp only [sp_known, hcx, if_neg hno], by simp only [sp_known, hcx, if_neg hno]; exact hR⟩) | (have hno : ¬ ((¬ ms1 < 0 ∧ ms1 ≤ rows ∧ rows ≤ 1000000) ∧ ¬ (mnR (g_rf s c) (g_rc s c) = none ∧ ms1 < rows)) := fun z => absurd z.1.2.1 (Int32.not_le.mpr h18); exact ⟨by simp only [sp_known, hcx, if_neg hno], by simp only [sp_known, hcx, if_neg hno]; exact hR⟩) | (have hno : ¬ ((¬ ms1 < 0 ∧ ms1 ≤ rows ∧ rows ≤ 1000000) ∧ ¬ (mnR (g_rf s c) (g_rc s c) = none ∧ ms1 < rows)) := fun z => h24 z.1.2.2; exact ⟨by simp only [sp_known, hcx, if_neg hno], by simp only [sp_known, hcx, if_neg hno]; exact hR⟩)) (by omega) (by omega)
    · refine j_iload_n (i := 3) (t := 17) C d_T_known_16 rfl rfl rfl ?_
      refine j_iload_n (i := 2) (t := 18) C d_T_known_17 rfl rfl rfl ?_
      refine j_icmp_gt (tgt := 27) (t := 21) C d_T_known_18 (by decide) rfl (fun h18 => ?_) (fun h18 => ?_)
      · refine j_iconst (x := 0) (t := 28) C d_T_known_27 rfl rfl ?_
        exact j_iret C d_T_known_28 rfl (by first | (have hcn : cix s x = none := Option.map_eq_none_iff.mp h9; exact ⟨by simp [sp_known, hcn], by simp only [sp_known, hcn]; exact hR⟩) | (have hno : ¬ ((¬ ms1 < 0 ∧ ms1 ≤ rows ∧ rows ≤ 1000000) ∧ ¬ (mnR (g_rf s c) (g_rc s c) = none ∧ ms1 < rows)) := fun z => z.1.1 h13; exact ⟨by simp only [sp_known, hcx, if_neg hno], by simp only [sp_known, hcx, if_neg hno]; exact hR⟩) | (have hno : ¬ ((¬ ms1 < 0 ∧ ms1 ≤ rows ∧ rows ≤ 1000000) ∧ ¬ (mnR (g_rf s c) (g_rc s c) = none ∧ ms1 < rows)) := fun z => absurd z.1.2.1 (Int32.not_le.mpr h18); exact ⟨by simp only [sp_known, hcx, if_neg hno], by simp only [sp_known, hcx, if_neg hno]; exact hR⟩) | (have hno : ¬ ((¬ ms1 < 0 ∧ ms1 ≤ rows ∧ rows ≤ 1000000) ∧ ¬ (mnR (g_rf s c) (g_rc s c) = none ∧ ms1 < rows)) := fun z => h24 z.1.2.2; exact ⟨by simp only [sp_known, hcx, if_neg hno], by simp only [sp_known, hcx, if_neg hno]; exact hR⟩)) (by omega) (by omega)
      · refine j_iload_n (i := 2) (t := 22) C d_T_known_21 rfl rfl rfl ?_
        refine j_ldc (t := 24) C d_T_known_22 ct_T_128 rfl ?_
        refine j_icmp_le (tgt := 29) (t := 27) C d_T_known_24 (by decide) rfl (fun h24 => ?_) (fun h24 => ?_)
        · refine j_aload (t := 31) C d_T_known_29 rfl (by first | exact jrv_r | exact jrv_n | exact jrv_f) rfl ?_
          refine j_iload_n (i := 2) (t := 32) C d_T_known_31 rfl rfl rfl ?_
          refine j_iload_n (i := 3) (t := 33) C d_T_known_32 rfl rfl rfl ?_
          refine j_callV (As := [_, _]) (t := 36) C (c_C_learn _ (q 1 c) (q 2 c) _ _ _ _ _ _ _ _ _ _ (g_rc s c) fr1 (g_rf s c) rows ms1) d_T_known_33 jb_C_learn ml_T_129 jv_C_learn (by assumption) rfl rfl rfl (Nat.le_of_ble_eq_true rfl) (by decide) (by omega) (by omega) (⟨rfl, k1, k2, y2, k3⟩) rfl (fun r33 w33 p33 => ?_)
          obtain ⟨lw, hg, i1, i2, hh⟩ := p33
          rcases hh with ⟨z1, z2, rfl, rfl⟩ | ⟨z1, rfl, g1, K⟩
          · dsimp only [jst]
            have hno : ¬ ((¬ ms1 < 0 ∧ ms1 ≤ rows ∧ rows ≤ 1000000) ∧ ¬ (mnR (g_rf s c) (g_rc s c) = none ∧ ms1 < rows)) := fun z => z.2 ⟨isO_none (by rw [z1] at i1; exact i1), z2⟩
            exact j_iret C d_T_known_36 rfl (⟨by simp only [sp_known, hcx, if_neg hno], by simp only [sp_known, hcx, if_neg hno]; exact hR⟩) (by omega) (by omega)
          · dsimp only [jst]
            have hmn : ¬ (mnR (g_rf s c) (g_rc s c) = none ∧ ms1 < rows) := fun z => z1 ⟨by cases lw with | none => rfl | some a => (obtain ⟨v, hv, -⟩ := isO_some i1; rw [z.1] at hv; cases hv), z.2⟩
            have hyes : (¬ ms1 < 0 ∧ ms1 ≤ rows ∧ rows ≤ 1000000) ∧ ¬ (mnR (g_rf s c) (g_rc s c) = none ∧ ms1 < rows) := ⟨⟨h13, by simpa using h18, h24⟩, hmn⟩
            suffices hfin : RepC (xG X) w33 o (learnt s c rows ms1) from j_iret C d_T_known_36 rfl ⟨by simp only [sp_known, hcx, if_pos hyes], by simp only [sp_known, hcx, if_pos hyes]; exact hfin⟩ (by omega) (by omega)
            have hne : ∀ k, k = 2 ∨ k = 3 ∨ k = 4 → q k c ∉ [q 1 c] := fun k hk z => by
              simp only [List.mem_cons, List.not_mem_nil, or_false] at z
              rcases z with z
              · have z := (hinj k c 1 c (vldc (by omega) (by omega) hc) (vldc (by omega) (by omega) hc) z).1
                omega
            have hM : MU (xG X) _ [q 1 c] := MU.cons k1 mE_C MU.nil
            refine ⟨q, un, fc, ft, fl, fs, bs, fw, fr, fu, RK_col hRK hc ⟨rfl, rfl, rfl, rfl, rfl, rfl, rfl, rfl, rfl, rfl, rfl, rfl, rfl⟩ (fun c2 hn => ⟨rfl, rfl, rfl, (va_up_ne _ _ hn).symm, (va_up_ne _ _ hn).symm, (va_up_ne _ _ hn).symm, (va_up_ne _ _ hn).symm, (va_up_ne _ _ hn).symm, rfl⟩) K (MS.cons k1 mE_C (fun _ => mS_C) MS.nil) (fun a ha => ⟨1, by omega, by omega, List.mem_singleton.mp ha⟩) ?_⟩
            have e1 : g_kn (learnt s c rows ms1) c = true := va_up_self _ _ _
            have e2 : g_kr (learnt s c rows ms1) c = rows := va_up_self _ _ _
            have e3 : g_km (learnt s c rows ms1) c = ms1 := va_up_self _ _ _
            have e4 : g_mo (learnt s c rows ms1) c = mmR (g_rf s c) (g_rc s c) := va_up_self _ _ _
            have e5 : g_ec (learnt s c rows ms1) c = 0 := va_up_self _ _ _
            refine ⟨fr1, rows, ms1, lw, hg, fe, 0, fs1, ?_, K _ _ (hne 2 (by omega)) k2, fun j hj => isO_keep K hM (k3 j hj), K _ _ (hne 3 (by omega)) k4, K _ _ (hne 4 (by omega)) k5, fun hk => ?_⟩
            · rw [e1]; exact g1
            · rw [e2, e3, e4, e5, mm_fst, mm_snd]
              exact ⟨rfl, rfl, rfl, fun j hj => absurd hj (Nat.not_lt_zero _), isO_keep K hM i1, isO_keep K hM i2⟩
        · refine j_iconst (x := 0) (t := 28) C d_T_known_27 rfl rfl ?_
          exact j_iret C d_T_known_28 rfl (by first | (have hcn : cix s x = none := Option.map_eq_none_iff.mp h9; exact ⟨by simp [sp_known, hcn], by simp only [sp_known, hcn]; exact hR⟩) | (have hno : ¬ ((¬ ms1 < 0 ∧ ms1 ≤ rows ∧ rows ≤ 1000000) ∧ ¬ (mnR (g_rf s c) (g_rc s c) = none ∧ ms1 < rows)) := fun z => z.1.1 h13; exact ⟨by simp only [sp_known, hcx, if_neg hno], by simp only [sp_known, hcx, if_neg hno]; exact hR⟩) | (have hno : ¬ ((¬ ms1 < 0 ∧ ms1 ≤ rows ∧ rows ≤ 1000000) ∧ ¬ (mnR (g_rf s c) (g_rc s c) = none ∧ ms1 < rows)) := fun z => absurd z.1.2.1 (Int32.not_le.mpr h18); exact ⟨by simp only [sp_known, hcx, if_neg hno], by simp only [sp_known, hcx, if_neg hno]; exact hR⟩) | (have hno : ¬ ((¬ ms1 < 0 ∧ ms1 ≤ rows ∧ rows ≤ 1000000) ∧ ¬ (mnR (g_rf s c) (g_rc s c) = none ∧ ms1 < rows)) := fun z => h24 z.1.2.2; exact ⟨by simp only [sp_known, hcx, if_neg hno], by simp only [sp_known, hcx, if_neg hno]; exact hR⟩)) (by omega) (by omega)

set_option maxHeartbeats 4000000 in
set_option maxRecDepth 100000 in
/-- dictionary -/
theorem c_T_dictionary (l : Launch) (o : Nat) (s : jS) (x : Int32) : MC l y_T_dictionary b_T_dictionary 3 (some .boolean) 3 0 0
    (fun G w av => av = [.ref o, .int x] ∧ RepC G w o s ∧ WF s)
    (fun G w av r w' => r = some (.int (sp_dict s x).1) ∧ RepC G w' o (sp_dict s x).2) := by
  refine MC.of 99 (by decide) ?_
  intro X w av hl C hnm hp
  obtain ⟨rfl, hR, hW⟩ := hp
  obtain ⟨q, un, fc, ft, fl, fs, bs, fw, fr, fu, hRK⟩ := id hR
  obtain ⟨hG, ho, ⟨hac, hcc⟩, ⟨hat, hfit, htp⟩, ⟨hal, hlit⟩, ⟨has, hst⟩, haw, ⟨har, hzt⟩, ⟨hau, hun, hut⟩, hcol, hinj⟩ := id hRK
  obtain ⟨wtn, wtp, wcc, wln, wsn, wzn, wcol, wlit, wst, wzt⟩ := id hW
  refine ⟨[(0, _), (1, _)], rfl, Nat.le_of_ble_eq_true rfl, rfl, ?_⟩
  refine j_aload_n (i := 0) (t := 1) C d_T_dictionary_0 rfl rfl (by first | exact jrv_r | exact jrv_n | exact jrv_f) rfl ?_
  refine j_iload_n (i := 1) (t := 2) C d_T_dictionary_1 rfl rfl rfl ?_
  refine j_callV (As := [_]) (t := 5) C (c_T_columnAt _ o (q 0 0) _ (g_cc s) fc x) d_T_dictionary_2 jb_T_columnAt ml_T_66 jv_T_columnAt (by assumption) rfl rfl rfl (Nat.le_of_ble_eq_true rfl) (by decide) (by omega) (by omega) (⟨rfl, ho, rfl, rfl, hac, wcc⟩) rfl (fun r2 w2 p2 => ?_)
  obtain ⟨rfl, rfl⟩ := p2
  dsimp only [jst]
  rw [vAt_cix wcc hcc]
  refine j_astore_n (i := 2) (t := 6) (lv' := [(0, _), (1, _), (2, _)]) C d_T_dictionary_5 rfl (by first | exact jrv_r | exact jrv_n | exact jrv_f) (by decide) (by decide) rfl rfl ?_
  refine j_aload_n (i := 2) (t := 7) C d_T_dictionary_6 rfl rfl (by first | exact jrv_r | exact jrv_n | exact jrv_f) rfl ?_
  refine j_ifnull (tgt := 21) (t := 10) C d_T_dictionary_7 (by decide) rfl (fun h7 => ?_) (fun a7 h7 => ?_)
  · have hcn : cix s x = none := Option.map_eq_none_iff.mp h7
    refine j_iconst (x := 0) (t := 22) C d_T_dictionary_21 rfl rfl ?_
    exact j_iret C d_T_dictionary_22 rfl (⟨by simp [sp_dict, hcn], by simp only [sp_dict, hcn]; exact hR⟩) (by omega) (by omega)
  · obtain ⟨c, hcx, rfl⟩ := Option.map_eq_some_iff.mp h7
    obtain ⟨hc, hxc⟩ := cix_some wcc hcx
    obtain ⟨fr1, kr1, km1, lA, hA, fe, ec1, fs1, k1, k2, k3, k4, k5, k6⟩ := hcol c hc
    obtain ⟨y1, y2, y3, y4, y5⟩ := wcol c hc
    refine j_lv (lv' := [(0, .ref o), (1, .int x), (2, .ref (q 1 c))]) (by rw [hcx]; rfl) rfl ?_
    refine j_aload_n (i := 2) (t := 11) C d_T_dictionary_10 rfl rfl (by first | exact jrv_r | exact jrv_n | exact jrv_f) rfl ?_
    refine j_callV (As := []) (t := 14) C (c_C_learnDictionary _ (q 1 c) (q 2 c) _ _ (g_kn s c) _ _ lA hA (q 3 c) _ (q 4 c) (g_rc s c) fr1 fs1 (g_rf s c) ((g_mo s c).map Prod.fst) ((g_mo s c).map Prod.snd)) d_T_dictionary_11 jb_C_learnDictionary ml_T_133 jv_C_learnDictionary (by assumption) rfl rfl rfl (Nat.le_of_ble_eq_true rfl) (by decide) (by omega) (by omega) (⟨rfl, k1, k2, y2, k3, k5, fun hk => ⟨(k6 hk).2.2.2.2.1, (k6 hk).2.2.2.2.2⟩⟩) rfl (fun r11 w11 p11 => ?_)
    cases hd : dcr (g_kn s c) ((g_mo s c).map Prod.fst) ((g_mo s c).map Prod.snd) (g_rf s c) (g_rc s c) with
    | none =>
      rw [hd] at p11
      obtain ⟨rfl, ⟨f2, g2⟩, K⟩ := p11
      dsimp only [jst]
      have hne : ∀ k, k = 1 ∨ k = 2 ∨ k = 3 → q k c ∉ [q 4 c] := fun k hk z => by
        simp only [List.mem_cons, List.not_mem_nil, or_false] at z
        rcases z with z
        · have z := (hinj k c 4 c (vldc (by omega) (by omega) hc) (vldc (by omega) (by omega) hc) z).1
          omega
      have hM : MU (xG X) _ [q 4 c] := MU.cons k5 mE_R MU.nil
      have hfin : RepC (xG X) w11 o (sp_dict s x).2 := by
        simp only [sp_dict, hcx, hd]
        refine ⟨q, un, fc, ft, fl, fs, bs, fw, fr, fu, RK_col hRK hc ⟨rfl, rfl, rfl, rfl, rfl, rfl, rfl, rfl, rfl, rfl, rfl, rfl, rfl⟩ (fun c2 hn => ⟨rfl, rfl, rfl, rfl, rfl, rfl, rfl, rfl, rfl⟩) K (MS.cons k5 mE_R (fun _ => mS_R) MS.nil) (fun a ha => ⟨4, by omega, by omega, List.mem_singleton.mp ha⟩) ?_⟩
        refine ⟨fr1, kr1, km1, lA, hA, fe, ec1, f2, K _ _ (hne 1 (by omega)) k1, K _ _ (hne 2 (by omega)) k2, fun j hj => isO_keep K hM (k3 j hj), K _ _ (hne 3 (by omega)) k4, g2, fun hk => ?_⟩
        obtain ⟨b1, b2, b3, b4, b5, b6⟩ := k6 hk
        refine ⟨b1, b2, b3, fun j hj => ?_, isO_keep K hM b5, isO_keep K hM b6⟩
        obtain ⟨b, c1, c2⟩ := b4 j hj
        exact ⟨b, c1, isV_keep K hM c2⟩
      refine j_if_eq (tgt := 21) (t := 17) C d_T_dictionary_14 (by decide) rfl (fun _ => ?_) (fun z => absurd rfl z)
      refine j_iconst (x := 0) (t := 22) C d_T_dictionary_21 rfl rfl ?_
      exact j_iret C d_T_dictionary_22 rfl ⟨by simp only [sp_dict, hcx, hd], hfin⟩ (by omega) (by omega)
    | some kg =>
      obtain ⟨kk1, g⟩ := kg
      rw [hd] at p11
      obtain ⟨rfl, hk100, ⟨f2, g2, g3⟩, g1, K⟩ := p11
      dsimp only [jst]
      have hne : ∀ k, k = 2 ∨ k = 3 → q k c ∉ [q 1 c, q 4 c] := fun k hk z => by
        simp only [List.mem_cons, List.not_mem_nil, or_false] at z
        rcases z with z | z
        · have z := (hinj k c 1 c (vldc (by omega) (by omega) hc) (vldc (by omega) (by omega) hc) z).1
          omega
        · have z := (hinj k c 4 c (vldc (by omega) (by omega) hc) (vldc (by omega) (by omega) hc) z).1
          omega
      have hkn : g_kn s c = true := by
        cases hkn : g_kn s c with
        | true => rfl
        | false => rw [hkn, dcr_f] at hd; cases hd
      obtain ⟨b1, b2, b3, b4, b5, b6⟩ := k6 hkn
      have hM : MU (xG X) _ [q 1 c, q 4 c] := MU.cons k1 mE_C (MU.cons k5 mE_R MU.nil)
      have hfin : RepC (xG X) w11 o (sp_dict s x).2 := by
        simp only [sp_dict, hcx, hd]
        refine ⟨swq q c, un, fc, ft, fl, fs, bs, fw, fr, fu, RK_colq hRK hc ⟨rfl, rfl, rfl, rfl, rfl, rfl, rfl, rfl, rfl, rfl, rfl, rfl, rfl⟩ (fun c2 hn => ⟨rfl, rfl, rfl, rfl, rfl, rfl, rfl, (va_up_ne _ _ hn).symm, (va_up_ne _ _ hn).symm⟩) K (MS.cons k1 mE_C (fun _ => mS_C) (MS.cons k5 mE_R (fun _ => mS_R) MS.nil)) (fun a ha => ?_) (by funext i; simp [swq]) (by funext i; simp [swq]) (fun k c2 hn => by simp [swq, hn]) (swq_ok hc hinj (fun k => by simp [swq])) ?_⟩
        · rcases List.mem_cons.mp ha with z | z
          · exact ⟨1, by omega, by omega, z⟩
          · exact ⟨4, by omega, by omega, List.mem_singleton.mp z⟩
        · have s1 : swq q c 1 c = q 1 c := by simp [swq]
          have s2 : swq q c 2 c = q 2 c := by simp [swq]
          have s3 : swq q c 3 c = q 4 c := by simp [swq]
          have s4 : swq q c 4 c = q 3 c := by simp [swq]
          unfold colC
          rw [s1, s2, s3, s4]
          refine ⟨fr1, kr1, km1, lA, hA, f2, nI kk1, fe, ?_, K _ _ (hne 2 (by omega)) k2, fun j hj => isO_keep K hM (k3 j hj), g2, K _ _ (hne 3 (by omega)) k4, fun hk => ⟨b1, b2, ?_, fun j hj => ?_, isO_keep K hM b5, isO_keep K hM b6⟩⟩
          · rw [show bI (g_kn s c) = 1 by rw [hkn]; rfl]; exact g1
          · show nI kk1 = nI (va_up (g_ec s) c kk1 c)
            rw [va_up_self]
          · have hj : j < va_up (g_ec s) c kk1 c := hj
            rw [va_up_self] at hj
            obtain ⟨b, c1, c2⟩ := g3 j hj
            refine ⟨b, c1, ?_⟩
            show isV (xG X) _ b (va_up (g_ef s) c g c j)
            rw [va_up_self]
            exact isV_keep K hM c2
      refine j_if_eq (tgt := 21) (t := 17) C d_T_dictionary_14 (by decide) rfl (fun z => absurd z (by decide)) (fun _ => ?_)
      refine j_iconst (x := 1) (t := 18) C d_T_dictionary_17 rfl rfl ?_
      refine j_goto (tgt := 22) C d_T_dictionary_18 (by decide) ?_
      exact j_iret C d_T_dictionary_22 rfl ⟨by simp only [sp_dict, hcx, hd], hfin⟩ (by omega) (by omega)
