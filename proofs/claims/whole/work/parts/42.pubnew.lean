set_option maxHeartbeats 4000000 in
set_option maxRecDepth 100000 in
/-- column -/
theorem c_T_column (l : Launch) (o : Nat) (s : jS) (ty : Int32) : MC l y_T_column b_T_column 2 (some .int) 2 4 1212
    (fun G w av => av = [.ref o, .int ty] ∧ RepC G w o s ∧ WF s)
    (fun G w av r w' => r = some (.int (sp_column s ty).1) ∧ RepC G w' o (sp_column s ty).2) := by
  refine MC.of 99 (by decide) ?_
  intro X w av hl C hnm hp
  obtain ⟨rfl, hR, hW⟩ := hp
  obtain ⟨q, un, fc, ft, fl, fs, bs, fw, fr, fu, hRK⟩ := id hR
  obtain ⟨hG, ho, ⟨hac, hcc⟩, ⟨hat, hfit, htp⟩, ⟨hal, hlit⟩, ⟨has, hst⟩, haw, ⟨har, hzt⟩, ⟨hau, hun, hut⟩, hcol, hinj⟩ := id hRK
  obtain ⟨wtn, wtp, wcc, wln, wsn, wzn, wcol, wlit, wst, wzt⟩ := id hW
  refine ⟨[(0, _), (1, _)], rfl, Nat.le_of_ble_eq_true rfl, rfl, ?_⟩
  refine j_aload_n (i := 0) (t := 1) C d_T_column_0 rfl rfl (by first | exact jrv_r | exact jrv_n | exact jrv_f) rfl ?_
  refine j_get (t := 4) C fl_T_15 d_T_column_1 (by assumption) (by first | rfl | assumption) rfl ?_
  refine j_bipush (x := 16) (t := 6) C d_T_column_4 rfl rfl ?_
  refine j_icmp_ge (tgt := 18) (t := 9) C d_T_column_6 (by decide) rfl (fun h6 => ?_) (fun h6 => ?_)
  · refine j_iconst (x := (-1)) (t := 19) C d_T_column_18 rfl rfl ?_
    exact j_iret C d_T_column_19 rfl (by first | (have hno : ¬ (g_cc s < 16 ∧ ¬ ty < 0 ∧ ty ≤ 2) := fun z => absurd ((nI_leI (a := 16) (by omega) (by omega)).mp h6) (by omega); exact ⟨by simp only [sp_column, if_neg hno], by simp only [sp_column, if_neg hno]; exact hR⟩) | (have hno : ¬ (g_cc s < 16 ∧ ¬ ty < 0 ∧ ty ≤ 2) := fun z => z.2.1 h10; exact ⟨by simp only [sp_column, if_neg hno], by simp only [sp_column, if_neg hno]; exact hR⟩) | (have hno : ¬ (g_cc s < 16 ∧ ¬ ty < 0 ∧ ty ≤ 2) := fun z => h15 z.2.2; exact ⟨by simp only [sp_column, if_neg hno], by simp only [sp_column, if_neg hno]; exact hR⟩)) (by omega) (by omega)
  · refine j_iload_n (i := 1) (t := 10) C d_T_column_9 rfl rfl rfl ?_
    refine j_if_lt (tgt := 18) (t := 13) C d_T_column_10 (by decide) rfl (fun h10 => ?_) (fun h10 => ?_)
    · refine j_iconst (x := (-1)) (t := 19) C d_T_column_18 rfl rfl ?_
      exact j_iret C d_T_column_19 rfl (by first | (have hno : ¬ (g_cc s < 16 ∧ ¬ ty < 0 ∧ ty ≤ 2) := fun z => absurd ((nI_leI (a := 16) (by omega) (by omega)).mp h6) (by omega); exact ⟨by simp only [sp_column, if_neg hno], by simp only [sp_column, if_neg hno]; exact hR⟩) | (have hno : ¬ (g_cc s < 16 ∧ ¬ ty < 0 ∧ ty ≤ 2) := fun z => z.2.1 h10; exact ⟨by simp only [sp_column, if_neg hno], by simp only [sp_column, if_neg hno]; exact hR⟩) | (have hno : ¬ (g_cc s < 16 ∧ ¬ ty < 0 ∧ ty ≤ 2) := fun z => h15 z.2.2; exact ⟨by simp only [sp_column, if_neg hno], by simp only [sp_column, if_neg hno]; exact hR⟩)) (by omega) (by omega)
    · refine j_iload_n (i := 1) (t := 14) C d_T_column_13 rfl rfl rfl ?_
      refine j_iconst (x := 2) (t := 15) C d_T_column_14 rfl rfl ?_
      refine j_icmp_le (tgt := 20) (t := 18) C d_T_column_15 (by decide) rfl (fun h15 => ?_) (fun h15 => ?_)
      · have hn16 : g_cc s < 16 := by rcases Nat.lt_or_ge (g_cc s) 16 with z | z; exact z; exact absurd (nI_le (a := 16) z (by omega)) h6
        have hyes : g_cc s < 16 ∧ ¬ ty < 0 ∧ ty ≤ 2 := ⟨hn16, h10, h15⟩
        have hin : vp_in (nI (g_cc s)) 16 := vp_in_nI hn16 (by omega)
        refine j_aload_n (i := 0) (t := 21) C d_T_column_20 rfl rfl (by first | exact jrv_r | exact jrv_n | exact jrv_f) rfl ?_
        refine j_get (t := 24) C fl_T_11 d_T_column_21 (by assumption) (by first | rfl | assumption) rfl ?_
        refine j_aload_n (i := 0) (t := 25) C d_T_column_24 rfl rfl (by first | exact jrv_r | exact jrv_n | exact jrv_f) rfl ?_
        refine j_get (t := 28) C fl_T_15 d_T_column_25 (by assumption) (by first | rfl | assumption) rfl ?_
        refine j_newW (t := 31) C nw_T_9 d_T_column_28 (by omega) (by first | omega | (simp only [List.length_cons, List.length_nil]; omega)) rfl (fun a28 w28 n28 e28 h28 f28 => ?_)
        refine j_wide (k' := 1) (n' := 12) (Nat.le_of_ble_eq_true rfl) (Nat.le_of_ble_eq_true rfl) ?_
        refine j_dup (t := 32) C d_T_column_31 rfl rfl ?_
        refine j_iload_n (i := 1) (t := 33) C d_T_column_32 rfl rfl rfl ?_
        refine j_callI (As := [_]) (t := 36) C (c_C_init _ a28 ty) d_T_column_33 jb_C_init ml_T_64 im_C_init rfl rfl (Nat.le_of_ble_eq_true rfl) (by decide) (by omega) (by omega) (⟨rfl, h28⟩) rfl (fun r33 w33 p33 => ?_)
        obtain ⟨rfl, ra, ea, sa, ⟨n1, n2, n3⟩, ⟨d1, d2, d3⟩, g1, g2, g3, g4, K33⟩ := p33
        dsimp only [jst]
        have k33 : ∀ {b e}, jh _ b e → jh w33 b e := fun {b e} hb => K33 b e (fun z => n28 (by rw [← List.mem_singleton.mp z]; exact hb.1)) (f28 b e hb)
        have ho33 := k33 ho
        have hac33 := k33 hac
        have m28 : ∀ {b}, b ∈ _ → b ∈ w28.1 := fun {b} hb => (f28 b _ ⟨hb, rfl⟩).1
        have noo : ∀ {b}, b ∉ w28.1 → b ≠ o := fun hb z => hb (by rw [z]; exact m28 ho.1)
        have noc : ∀ {b}, b ∉ w28.1 → b ≠ q 0 0 := fun hb z => hb (by rw [z]; exact m28 hac.1)
        have a28o : a28 ≠ o := fun z => n28 (by rw [z]; exact ho.1)
        have a28c : a28 ≠ q 0 0 := fun z => n28 (by rw [z]; exact hac.1)
        have hoc : o ≠ q 0 0 := jh_ne ho hac (by simp)
        refine j_lv (st' := [va_rf (some a28), .int (nI (g_cc s)), .ref (q 0 0)]) rfl rfl ?_
        refine j_aastoreW (t := 37) C d_T_column_36 (by assumption) (fun b hb => by cases hb; exact ⟨_, g1⟩) rfl rfl (by assumption) rfl (fun w36 e36 h36 f36 => ?_)
        have ho36 := f36 _ _ hoc ho33
        rw [nI_clamp (by omega)] at h36
        refine j_aload_n (i := 0) (t := 38) C d_T_column_37 rfl rfl (by first | exact jrv_r | exact jrv_n | exact jrv_f) rfl ?_
        refine j_dup (t := 39) C d_T_column_38 rfl rfl ?_
        refine j_get (t := 42) C fl_T_15 d_T_column_39 (by assumption) (by first | rfl | assumption) rfl ?_
        refine j_iconst (x := 1) (t := 43) C d_T_column_42 rfl rfl ?_
        refine j_iadd (t := 44) C d_T_column_43 rfl ?_
        refine j_putW (t := 47) C fp_T_15 d_T_column_44 (by assumption) (by first | rfl | exact jnar_rf) (by first | rfl | exact jfit_rf) (by first | exact Nat.le_of_ble_eq_true rfl | (simp only [List.length_set]; omega)) rfl (fun w44 e44 h44 f44 => ?_)
        rw [nI_1] at h44
        refine j_aload_n (i := 0) (t := 48) C d_T_column_47 rfl rfl (by first | exact jrv_r | exact jrv_n | exact jrv_f) rfl ?_
        refine j_get (t := 51) C fl_T_15 d_T_column_48 (by assumption) (by first | rfl | assumption) rfl ?_
        refine j_iconst (x := 1) (t := 52) C d_T_column_51 rfl rfl ?_
        refine j_isub (t := 53) C d_T_column_52 rfl ?_
        rw [nI_pred]
        exact j_iret C d_T_column_53 rfl (⟨by simp only [sp_column, if_pos hyes], by
      simp only [sp_column, if_pos hyes]
      exact ⟨nwq q (g_cc s) a28 ra ea sa, un, _, ft, fl, fs, bs, fw, fr, fu, RK_newcol hRK hW hn16 n28 (fun z => n1 (m28 z)) (fun z => n2 (m28 z)) (fun z => n3 (m28 z)) ⟨fun z => n1 (by rw [← z]; exact h28.1), fun z => n2 (by rw [← z]; exact h28.1), fun z => n3 (by rw [← z]; exact h28.1), d1, d2, d3⟩ (fun b e hb hh => f44 b e (fun z => hb (by rw [z]; simp)) (f36 b e (fun z => hb (by rw [z]; simp)) (k33 hh))) h44 (f44 _ _ hoc.symm h36) (f44 _ _ (a28o) (f36 _ _ (a28c) g1)) (f44 _ _ (noo n1) (f36 _ _ (noc n1) g2)) (f44 _ _ (noo n2) (f36 _ _ (noc n2) g3)) (f44 _ _ (noo n3) (f36 _ _ (noc n3) g4))⟩⟩) (by omega) (by omega)
      · refine j_iconst (x := (-1)) (t := 19) C d_T_column_18 rfl rfl ?_
        exact j_iret C d_T_column_19 rfl (by first | (have hno : ¬ (g_cc s < 16 ∧ ¬ ty < 0 ∧ ty ≤ 2) := fun z => absurd ((nI_leI (a := 16) (by omega) (by omega)).mp h6) (by omega); exact ⟨by simp only [sp_column, if_neg hno], by simp only [sp_column, if_neg hno]; exact hR⟩) | (have hno : ¬ (g_cc s < 16 ∧ ¬ ty < 0 ∧ ty ≤ 2) := fun z => z.2.1 h10; exact ⟨by simp only [sp_column, if_neg hno], by simp only [sp_column, if_neg hno]; exact hR⟩) | (have hno : ¬ (g_cc s < 16 ∧ ¬ ty < 0 ∧ ty ≤ 2) := fun z => h15 z.2.2; exact ⟨by simp only [sp_column, if_neg hno], by simp only [sp_column, if_neg hno]; exact hR⟩)) (by omega) (by omega)

set_option maxHeartbeats 4000000 in
set_option maxRecDepth 100000 in
/-- literal -/
theorem c_T_literal (l : Launch) (o : Nat) (s : jS) (ty : Int32) (v : Int64) : MC l y_T_literal b_T_literal 4 (some .int) 2 1 3
    (fun G w av => av = [.ref o, .int ty, .long v] ∧ RepC G w o s ∧ WF s)
    (fun G w av r w' => r = some (.int (sp_literal s ty v).1) ∧ RepC G w' o (sp_literal s ty v).2) := by
  refine MC.of 2 (by decide) ?_
  intro X w av hl C hnm hp
  obtain ⟨rfl, hR, hW⟩ := hp
  obtain ⟨q, un, fc, ft, fl, fs, bs, fw, fr, fu, hRK⟩ := id hR
  obtain ⟨hG, ho, ⟨hac, hcc⟩, ⟨hat, hfit, htp⟩, ⟨hal, hlit⟩, ⟨has, hst⟩, haw, ⟨har, hzt⟩, ⟨hau, hun, hut⟩, hcol, hinj⟩ := id hRK
  obtain ⟨wtn, wtp, wcc, wln, wsn, wzn, wcol, wlit, wst, wzt⟩ := id hW
  refine ⟨[(0, _), (1, _), (2, _)], rfl, Nat.le_of_ble_eq_true rfl, rfl, ?_⟩
  refine j_aload_n (i := 0) (t := 1) C d_T_literal_0 rfl rfl (by first | exact jrv_r | exact jrv_n | exact jrv_f) rfl ?_
  refine j_get (t := 4) C fl_T_32 d_T_literal_1 (by assumption) (by first | rfl | assumption) rfl ?_
  refine j_bipush (x := 64) (t := 6) C d_T_literal_4 rfl rfl ?_
  refine j_icmp_ge (tgt := 17) (t := 9) C d_T_literal_6 (by decide) rfl (fun h6 => ?_) (fun h6 => ?_)
  · refine j_iconst (x := (-1)) (t := 18) C d_T_literal_17 rfl rfl ?_
    exact j_iret C d_T_literal_18 rfl (by first | (have hno : ¬ (g_ln s < 64 ∧ nO ty v = true) := fun z => absurd ((nI_leI (a := 64) (by omega) (by omega)).mp h6) (by omega); exact ⟨by simp only [sp_literal, if_neg hno], by simp only [sp_literal, if_neg hno]; exact hR⟩) | (have hno : ¬ (g_ln s < 64 ∧ nO ty v = true) := fun z => absurd (bI_0.mp h14) (by rw [z.2]; decide); exact ⟨by simp only [sp_literal, if_neg hno], by simp only [sp_literal, if_neg hno]; exact hR⟩)) (by omega) (by omega)
  · refine j_iload_n (i := 1) (t := 10) C d_T_literal_9 rfl rfl rfl ?_
    refine j_lload_n (i := 2) (t := 11) C d_T_literal_10 rfl rfl rfl ?_
    refine j_callS (As := [_, _]) (t := 14) C (c_T_isNumberOf _ ty v) d_T_literal_11 jb_T_isNumberOf ml_T_73 st_T_isNumberOf rfl (Nat.le_of_ble_eq_true rfl) (by decide) (by omega) (by omega) (rfl) rfl (fun r11 w11 p11 => ?_)
    obtain ⟨rfl, rfl⟩ := p11
    dsimp only [jst]
    refine j_if_ne (tgt := 19) (t := 17) C d_T_literal_14 (by decide) rfl (fun h14 => ?_) (fun h14 => ?_)
    · rw [bI_0, Bool.not_eq_false] at h14
      have hn64 : g_ln s < 64 := by rcases Nat.lt_or_ge (g_ln s) 64 with z | z; exact z; exact absurd (nI_le (a := 64) z (by omega)) h6
      have hyes : g_ln s < 64 ∧ nO ty v = true := ⟨hn64, h14⟩
      refine j_aload_n (i := 0) (t := 20) C d_T_literal_19 rfl rfl (by first | exact jrv_r | exact jrv_n | exact jrv_f) rfl ?_
      refine j_newW (t := 23) C nw_T_26 d_T_literal_20 (by omega) (by first | omega | (simp only [List.length_cons, List.length_nil]; omega)) rfl (fun a20 w20 n20 e20 h20 f20 => ?_)
      refine j_wide (k' := 1) (n' := 3) (Nat.le_of_ble_eq_true rfl) (Nat.le_of_ble_eq_true rfl) ?_
      refine j_dup (t := 24) C d_T_literal_23 rfl rfl ?_
      refine j_iload_n (i := 1) (t := 25) C d_T_literal_24 rfl rfl rfl ?_
      refine j_lload_n (i := 2) (t := 26) C d_T_literal_25 rfl rfl rfl ?_
      refine j_getz (t := 29) C d_T_literal_26 fz_T_81 rfl ?_
      refine j_callI (As := [_, _, _]) (t := 32) C (c_V_init _ a20 (xG X).2.2 ty v) d_T_literal_29 jb_V_init ml_T_84 im_V_init rfl rfl (Nat.le_of_ble_eq_true rfl) (by decide) (by omega) (by omega) (⟨rfl, h20⟩) rfl (fun r29 w29 p29 => ?_)
      obtain ⟨rfl, e29⟩ := p29
      dsimp only [jst]
      have g29 : jh w29 a20 (eO cV [.int ty, .long v, .ref (xG X).2.2]) := by rw [e29]; exact jh_us h20
      have K29 : KA _ w29 [] := fun b e _ hb => by rw [e29]; exact jh_un (f20 b e hb) (fun z => n20 (by rw [← z]; exact hb.1))
      have hV : isV (xG X) w29 a20 (ty, v, []) := ⟨_, g29, by simp, Or.inl ⟨rfl, rfl⟩⟩
      have hRK2 := RK_mono hRK K29
      have kk : ∀ {a e}, jh _ a e → jh w29 a e := fun hb => K29 _ _ (by simp) hb
      have hob := kk ho
      refine j_callV (As := [_]) (t := 35) C (c_T_keepLiteral _ o a20 _ _ _ _ (q 0 2) _ _ _ _ _ _ _ (g_ln s) fl _) d_T_literal_32 jb_T_keepLiteral ml_T_106 jv_T_keepLiteral (by assumption) rfl rfl rfl (Nat.le_of_ble_eq_true rfl) (by decide) (by omega) (by omega) (⟨rfl, hob, kk hal, hn64, by assumption⟩) rfl (fun r32 w32 p32 => ?_)
      obtain ⟨rfl, g1, g2, K⟩ := p32
      dsimp only [jst]
      exact j_iret C d_T_literal_35 rfl (⟨by simp only [sp_literal, if_pos hyes], by
      simp only [sp_literal, if_pos hyes]
      have hS : ∀ a ∈ [o, q 0 2], a = o ∨ ∃ i, i < 7 ∧ a = q 0 i := fun a ha => by
        rcases List.mem_cons.mp ha with z | z
        · exact Or.inl z
        · exact Or.inr ⟨2, by omega, List.mem_singleton.mp z⟩
      have n1 : ∀ {i e}, i < 7 → i ≠ 2 → jh _ (q 0 i) e → (∀ fs, e ≠ eO cT fs) → q 0 i ∉ [o, q 0 2] := fun {i e} hi h1 he hx hm => by
        rcases List.mem_cons.mp hm with z | z
        · exact hx _ (jh_eq he (by rw [z]; exact hob))
        · exact h1 (hinj 0 i 0 2 (vld0 hi) (vld0 (by omega)) (List.mem_singleton.mp z)).2
      obtain ⟨l1, l2⟩ := RK_kl hRK2 hS K
      refine ⟨q, un, fc, ft, _, fs, bs, fw, fr, fu, RK_mk hRK2 hS K g1 ⟨(K _ _ (n1 (by omega) (by omega) (kk hac) (fun _ z => by simp at z)) (kk hac)), hcc⟩ ⟨(K _ _ (n1 (by omega) (by omega) (kk hat) (fun _ z => by simp at z)) (kk hat)), hfit, htp⟩ ⟨g2, fun j hj => ?_⟩ ⟨(K _ _ (n1 (by omega) (by omega) (kk has) (fun _ z => by simp at z)) (kk has)), l2⟩ (K _ _ (n1 (by omega) (by omega) (kk haw) (fun _ z => by simp at z)) (kk haw)) ⟨(K _ _ (n1 (by omega) (by omega) (kk har) (fun _ z => by simp at z)) (kk har)), hzt⟩ ⟨(K _ _ (n1 (by omega) (by omega) (kk hau) (fun _ z => by simp at z)) (kk hau)), hun, hut⟩ rfl (fun c _ => ⟨rfl, rfl, rfl, rfl, rfl, rfl, rfl, rfl, rfl⟩)⟩
      have hj : j < g_ln s + 1 := hj
      show ∃ b, va_up fl (g_ln s) (some a20) j = some b ∧ isV (xG X) _ b (va_up (g_lit s) (g_ln s) (ty, v, []) j)
      by_cases z : j = g_ln s
      · subst z
        exact ⟨_, va_up_self _ _ _, by rw [va_up_self]; exact isV_keep K (RK_ms hRK2 hS).mu hV⟩
      · rw [va_up_ne _ _ z, va_up_ne _ _ z]
        exact l1 j (show j < g_ln s by omega)⟩) (by omega) (by omega)
    · refine j_iconst (x := (-1)) (t := 18) C d_T_literal_17 rfl rfl ?_
      exact j_iret C d_T_literal_18 rfl (by first | (have hno : ¬ (g_ln s < 64 ∧ nO ty v = true) := fun z => absurd ((nI_leI (a := 64) (by omega) (by omega)).mp h6) (by omega); exact ⟨by simp only [sp_literal, if_neg hno], by simp only [sp_literal, if_neg hno]; exact hR⟩) | (have hno : ¬ (g_ln s < 64 ∧ nO ty v = true) := fun z => absurd (bI_0.mp h14) (by rw [z.2]; decide); exact ⟨by simp only [sp_literal, if_neg hno], by simp only [sp_literal, if_neg hno]; exact hR⟩)) (by omega) (by omega)

set_option maxHeartbeats 4000000 in
set_option maxRecDepth 100000 in
/-- literalText -/
theorem c_T_literalText (l : Launch) (o : Nat) (s : jS) (n : Int32) : MC l y_T_literalText b_T_literalText 2 (some .int) 3 2 258
    (fun G w av => av = [.ref o, .int n] ∧ RepC G w o s ∧ WF s)
    (fun G w av r w' => r = some (.int (sp_litText s n).1) ∧ RepC G w' o (sp_litText s n).2) := by
  refine MC.of 99 (by decide) ?_
  intro X w av hl C hnm hp
  obtain ⟨rfl, hR, hW⟩ := hp
  obtain ⟨q, un, fc, ft, fl, fs, bs, fw, fr, fu, hRK⟩ := id hR
  obtain ⟨hG, ho, ⟨hac, hcc⟩, ⟨hat, hfit, htp⟩, ⟨hal, hlit⟩, ⟨has, hst⟩, haw, ⟨har, hzt⟩, ⟨hau, hun, hut⟩, hcol, hinj⟩ := id hRK
  obtain ⟨wtn, wtp, wcc, wln, wsn, wzn, wcol, wlit, wst, wzt⟩ := id hW
  refine ⟨[(0, _), (1, _)], rfl, Nat.le_of_ble_eq_true rfl, rfl, ?_⟩
  refine j_aload_n (i := 0) (t := 1) C d_T_literalText_0 rfl rfl (by first | exact jrv_r | exact jrv_n | exact jrv_f) rfl ?_
  refine j_iload_n (i := 1) (t := 2) C d_T_literalText_1 rfl rfl rfl ?_
  refine j_callV (As := [_]) (t := 5) C (c_T_isOnTape _ o _ (nI (g_tn s)) n) d_T_literalText_2 jb_T_isOnTape ml_T_91 jv_T_isOnTape (by assumption) rfl rfl rfl (Nat.le_of_ble_eq_true rfl) (by decide) (by omega) (by omega) (⟨rfl, ho, rfl⟩) rfl (fun r2 w2 p2 => ?_)
  obtain ⟨rfl, rfl⟩ := p2
  dsimp only [jst]
  rw [show (decide (0 ≤ n) && decide (n ≤ nI (g_tn s))) = onT s n from rfl]
  refine j_if_ne (tgt := 10) (t := 8) C d_T_literalText_5 (by decide) rfl (fun h5 => ?_) (fun h5 => ?_)
  · rw [bI_0, Bool.not_eq_false] at h5
    obtain ⟨N1, rfl, hN1⟩ := onT_ok wtn h5
    refine j_aload_n (i := 0) (t := 11) C d_T_literalText_10 rfl rfl (by first | exact jrv_r | exact jrv_n | exact jrv_f) rfl ?_
    refine j_iconst (x := 0) (t := 12) C d_T_literalText_11 rfl rfl ?_
    refine j_putW (t := 15) C fp_T_23 d_T_literalText_12 (by assumption) (by first | rfl | exact jnar_rf) (by first | rfl | exact jfit_rf) (by first | exact Nat.le_of_ble_eq_true rfl | (simp only [List.length_set]; omega)) rfl (fun w12 e12 h12 f12 => ?_)
    have hRK2 : RK (xG X) w12 o (s_tn s 0) q un fc ft fl fs bs fw fr fu := RK_o hRK (KA.rf.put f12 (by simp)) h12 rfl rfl (fun j hj => ⟨hj, rfl⟩) (fun j hj => ⟨hj, rfl⟩) (fun j hj => absurd hj (Nat.not_lt_zero _)) hzt hun hut (fun c _ => ⟨rfl, rfl, rfl, rfl, rfl, rfl, rfl, rfl, rfl⟩)
    obtain ⟨-, ho2, ⟨hac2, hcc2⟩, ⟨hat2, hfit2, -⟩, ⟨hal2, -⟩, ⟨has2, -⟩, haw2, ⟨har2, -⟩, ⟨hau2, -⟩, hcol2, -⟩ := id hRK2
    have ho3 : jh w12 o (eO cT (tFs (q 0 0) (nI (g_cc s)) (q 0 1) (nI 0) (q 0 2) (nI (g_ln s)) (q 0 3) (nI (g_sn s)) (q 0 4) (q 0 5) (nI (g_zn s)) (q 0 6) (nI un))) := ho2
    refine j_aload_n (i := 0) (t := 16) C d_T_literalText_15 rfl rfl (by first | exact jrv_r | exact jrv_n | exact jrv_f) rfl ?_
    refine j_get (t := 19) C fl_T_32 d_T_literalText_16 (by assumption) (by first | rfl | assumption) rfl ?_
    refine j_bipush (x := 64) (t := 21) C d_T_literalText_19 rfl rfl ?_
    refine j_icmp_ge (tgt := 31) (t := 24) C d_T_literalText_21 (by decide) rfl (fun h21 => ?_) (fun h21 => ?_)
    · refine j_iconst (x := (-1)) (t := 32) C d_T_literalText_31 rfl rfl ?_
      exact j_iret C d_T_literalText_32 rfl (by first | (have hno : ¬ (g_ln s < 64 ∧ nI N1 ≤ 255) := fun z => absurd ((nI_leI (a := 64) (by omega) (by omega)).mp h21) (by omega); exact ⟨by simp only [sp_litText, h5, if_true, if_neg hno], by simp only [sp_litText, h5, if_true, if_neg hno]; exact ⟨q, un, fc, ft, fl, fs, bs, fw, fr, fu, hRK2⟩⟩) | (have hno : ¬ (g_ln s < 64 ∧ nI N1 ≤ 255) := fun z => h28 z.2; exact ⟨by simp only [sp_litText, h5, if_true, if_neg hno], by simp only [sp_litText, h5, if_true, if_neg hno]; exact ⟨q, un, fc, ft, fl, fs, bs, fw, fr, fu, hRK2⟩⟩)) (by omega) (by omega)
    · refine j_iload_n (i := 1) (t := 25) C d_T_literalText_24 rfl rfl rfl ?_
      refine j_sipush (x := 255) (t := 28) C d_T_literalText_25 rfl rfl ?_
      refine j_icmp_le (tgt := 33) (t := 31) C d_T_literalText_28 (by decide) rfl (fun h28 => ?_) (fun h28 => ?_)
      · have hn64 : g_ln s < 64 := by rcases Nat.lt_or_ge (g_ln s) 64 with z | z; exact z; exact absurd (nI_le (a := 64) z (by omega)) h21
        have hN255 : N1 ≤ 255 := (nI_leI (b := 255) (by omega) (by omega)).mp h28
        have hyes : g_ln s < 64 ∧ nI N1 ≤ 255 := ⟨hn64, h28⟩
        refine j_aload_n (i := 0) (t := 34) C d_T_literalText_33 rfl rfl (by first | exact jrv_r | exact jrv_n | exact jrv_f) rfl ?_
        refine j_newW (t := 37) C nw_T_26 d_T_literalText_34 (by omega) (by first | omega | (simp only [List.length_cons, List.length_nil]; omega)) rfl (fun a34 w34 n34 e34 h34 f34 => ?_)
        refine j_wide (k' := 1) (n' := 3) (Nat.le_of_ble_eq_true rfl) (Nat.le_of_ble_eq_true rfl) ?_
        have hat34 := f34 _ _ hat2
        have ho34 := f34 _ _ ho3
        refine j_dup (t := 38) C d_T_literalText_37 rfl rfl ?_
        refine j_iconst (x := 2) (t := 39) C d_T_literalText_38 rfl rfl ?_
        refine j_lconst (x := 0) (t := 40) C d_T_literalText_39 rfl rfl ?_
        refine j_aload_n (i := 0) (t := 41) C d_T_literalText_40 rfl rfl (by first | exact jrv_r | exact jrv_n | exact jrv_f) rfl ?_
        refine j_get (t := 44) C fl_T_19 d_T_literalText_41 (by assumption) (by first | rfl | assumption) rfl ?_
        refine j_iload_n (i := 1) (t := 45) C d_T_literalText_44 rfl rfl rfl ?_
        refine j_callS (As := [_, _]) (t := 48) C (c_A_copyOf _ (q 0 1) ft N1) d_T_literalText_45 jb_A_copyOf ml_T_97 st_A_copyOf rfl (Nat.le_of_ble_eq_true rfl) (by decide) (by omega) (by omega) (⟨rfl, hat34, hN255, hfit2⟩) rfl (fun r45 w45 p45 => ?_)
        obtain ⟨tA, rfl, nA, ⟨gA, hgA, egA⟩, KA45⟩ := p45
        dsimp only [jst]
        have h34a := KA45 _ _ (by simp) h34
        refine j_callI (As := [_, _, _]) (t := 51) C (c_V_init _ a34 tA 2 0) d_T_literalText_48 jb_V_init ml_T_84 im_V_init rfl rfl (Nat.le_of_ble_eq_true rfl) (by decide) (by omega) (by omega) (⟨rfl, h34a⟩) rfl (fun r48 w48 p48 => ?_)
        obtain ⟨rfl, e48⟩ := p48
        dsimp only [jst]
        have g48 : jh w48 a34 (eO cV [.int 2, .long 0, .ref tA]) := by rw [e48]; exact jh_us h34a
        have hneA : tA ≠ a34 := fun z => nA (by rw [z]; exact h34.1)
        have t48 : jh w48 tA (eB (xG X) N1 gA) := by rw [e48]; exact jh_un hgA hneA
        have K48 : KA _ w48 [] := fun b e _ hb => by rw [e48]; exact jh_un (KA45 _ _ (by simp) (f34 b e hb)) (fun z => n34 (by rw [← z]; exact hb.1))
        have hV : isV (xG X) w48 a34 (2, 0, tptx s N1) := ⟨_, g48, by simp [tptx]; exact hN255, Or.inr ⟨gA, by rw [tptx_len]; exact t48, fun j hj => by rw [tptx_len] at hj; rw [tptx_at hj, egA j hj]; exact (htp j (by omega)).symm⟩⟩
        have hRK3 := RK_mono hRK2 K48
        have kk : ∀ {a e}, jh _ a e → jh w48 a e := fun hb => K48 _ _ (by simp) hb
        have hob := kk ho3
        refine j_callV (As := [_]) (t := 54) C (c_T_keepLiteral _ o a34 _ _ _ _ (q 0 2) _ _ _ _ _ _ _ (g_ln s) fl _) d_T_literalText_51 jb_T_keepLiteral ml_T_106 jv_T_keepLiteral (by assumption) rfl rfl rfl (Nat.le_of_ble_eq_true rfl) (by decide) (by omega) (by omega) (⟨rfl, hob, kk hal2, hn64, by assumption⟩) rfl (fun r51 w51 p51 => ?_)
        obtain ⟨rfl, g1, g2, K⟩ := p51
        dsimp only [jst]
        exact j_iret C d_T_literalText_54 rfl (⟨by simp only [sp_litText, h5, if_true, if_pos hyes, nI_clamp (show N1 < 2 ^ 31 by omega)], by
      simp only [sp_litText, h5, if_true, if_pos hyes, nI_clamp (show N1 < 2 ^ 31 by omega)]
      have hS : ∀ a ∈ [o, q 0 2], a = o ∨ ∃ i, i < 7 ∧ a = q 0 i := fun a ha => by
        rcases List.mem_cons.mp ha with z | z
        · exact Or.inl z
        · exact Or.inr ⟨2, by omega, List.mem_singleton.mp z⟩
      have n1 : ∀ {i e}, i < 7 → i ≠ 2 → jh _ (q 0 i) e → (∀ fs, e ≠ eO cT fs) → q 0 i ∉ [o, q 0 2] := fun {i e} hi h1 he hx hm => by
        rcases List.mem_cons.mp hm with z | z
        · exact hx _ (jh_eq he (by rw [z]; exact hob))
        · exact h1 (hinj 0 i 0 2 (vld0 hi) (vld0 (by omega)) (List.mem_singleton.mp z)).2
      obtain ⟨l1, l2⟩ := RK_kl hRK3 hS K
      refine ⟨q, un, fc, ft, _, fs, bs, fw, fr, fu, RK_mk hRK3 hS K g1 ⟨(K _ _ (n1 (by omega) (by omega) (kk hac2) (fun _ z => by simp at z)) (kk hac2)), hcc⟩ ⟨(K _ _ (n1 (by omega) (by omega) (kk hat2) (fun _ z => by simp at z)) (kk hat2)), hfit, (fun j hj => absurd hj (Nat.not_lt_zero _))⟩ ⟨g2, fun j hj => ?_⟩ ⟨(K _ _ (n1 (by omega) (by omega) (kk has2) (fun _ z => by simp at z)) (kk has2)), l2⟩ (K _ _ (n1 (by omega) (by omega) (kk haw2) (fun _ z => by simp at z)) (kk haw2)) ⟨(K _ _ (n1 (by omega) (by omega) (kk har2) (fun _ z => by simp at z)) (kk har2)), hzt⟩ ⟨(K _ _ (n1 (by omega) (by omega) (kk hau2) (fun _ z => by simp at z)) (kk hau2)), hun, hut⟩ rfl (fun c _ => ⟨rfl, rfl, rfl, rfl, rfl, rfl, rfl, rfl, rfl⟩)⟩
      have hj : j < g_ln s + 1 := hj
      show ∃ b, va_up fl (g_ln s) (some a34) j = some b ∧ isV (xG X) _ b (va_up (g_lit s) (g_ln s) (2, 0, tptx s N1) j)
      by_cases z : j = g_ln s
      · subst z
        exact ⟨_, va_up_self _ _ _, by rw [va_up_self]; exact isV_keep K (RK_ms hRK3 hS).mu hV⟩
      · rw [va_up_ne _ _ z, va_up_ne _ _ z]
        exact l1 j (show j < g_ln s by omega)⟩) (by omega) (by omega)
      · refine j_iconst (x := (-1)) (t := 32) C d_T_literalText_31 rfl rfl ?_
        exact j_iret C d_T_literalText_32 rfl (by first | (have hno : ¬ (g_ln s < 64 ∧ nI N1 ≤ 255) := fun z => absurd ((nI_leI (a := 64) (by omega) (by omega)).mp h21) (by omega); exact ⟨by simp only [sp_litText, h5, if_true, if_neg hno], by simp only [sp_litText, h5, if_true, if_neg hno]; exact ⟨q, un, fc, ft, fl, fs, bs, fw, fr, fu, hRK2⟩⟩) | (have hno : ¬ (g_ln s < 64 ∧ nI N1 ≤ 255) := fun z => h28 z.2; exact ⟨by simp only [sp_litText, h5, if_true, if_neg hno], by simp only [sp_litText, h5, if_true, if_neg hno]; exact ⟨q, un, fc, ft, fl, fs, bs, fw, fr, fu, hRK2⟩⟩)) (by omega) (by omega)
  · refine j_iconst (x := (-1)) (t := 9) C d_T_literalText_8 rfl rfl ?_
    exact j_iret C d_T_literalText_9 rfl (by rw [bI_0] at h5; exact ⟨by simp [sp_litText, h5], by simp only [sp_litText, h5]; exact hR⟩) (by omega) (by omega)
