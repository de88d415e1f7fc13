theorem st_c1 {G : jG} {w : jw} {q : Nat → Nat → Nat} {s : jS} {kd x : Int32} (hcc : g_cc s ≤ 16) (hcol : ∀ c, c < g_cc s → colC G w q s c) : ∀ c, (if kd < 5 then (cix s x).map (q 1) else none) = some c → ∃ fs, jh w c (eO cC fs) ∧ fs[0]? = some (.int (cty s (cix s x))) := by
  intro c h
  split at h
  · obtain ⟨d, hd, rfl⟩ := Option.map_eq_some_iff.mp h
    obtain ⟨h1, -⟩ := cix_some hcc hd
    obtain ⟨fr1, kr1, km1, lA, hA, fe, ec1, fs1, k1, -⟩ := hcol d h1
    exact ⟨_, k1, by rw [hd]; rfl⟩
  · cases h
theorem st_c2 {G : jG} {w : jw} {q : Nat → Nat → Nat} {s : jS} {kd y : Int32} (hcc : g_cc s ≤ 16) (hcol : ∀ c, c < g_cc s → colC G w q s c) : ∀ c, (if kd = 4 then (cix s y).map (q 1) else none) = some c → ∃ fs, jh w c (eO cC fs) ∧ fs[0]? = some (.int (cty s (cix s y))) := by
  intro c h
  split at h
  · obtain ⟨d, hd, rfl⟩ := Option.map_eq_some_iff.mp h
    obtain ⟨h1, -⟩ := cix_some hcc hd
    obtain ⟨fr1, kr1, km1, lA, hA, fe, ec1, fs1, k1, -⟩ := hcol d h1
    exact ⟨_, k1, by rw [hd]; rfl⟩
  · cases h
theorem st_fit {q : Nat → Nat → Nat} {s : jS} {kd x op y m : Int32} (h : kd < 5) : fitS kd (Option.isSome (if kd < 5 then (cix s x).map (q 1) else none)) (cty s (cix s x)) op (Option.isSome (if kd = 4 then (cix s y).map (q 1) else none)) (cty s (cix s y)) y (tak kd m) (g_ln s) (g_lit s) = stFit s kd x op y m := by
  unfold stFit
  rw [if_pos h, Option.isSome_map]
  by_cases h4 : kd = 4
  · rw [if_pos h4, if_pos h4, Option.isSome_map]
  · rw [if_neg h4, if_neg h4]
    rfl
set_option maxHeartbeats 4000000 in
set_option maxRecDepth 100000 in
/-- step -/
theorem c_T_step (l : Launch) (o : Nat) (s : jS) (kd x op y m1 : Int32) : MC l y_T_step b_T_step 9 (some .int) 2 1 7
    (fun G w av => av = [.ref o, .int kd, .int x, .int op, .int y, .int m1] ∧ RepC G w o s ∧ WF s)
    (fun G w av r w' => r = some (.int (sp_step s kd x op y m1).1) ∧ RepC G w' o (sp_step s kd x op y m1).2) := by
  refine MC.of 99 (by decide) ?_
  intro X w av hl C hnm hp
  obtain ⟨rfl, hR, hW⟩ := hp
  obtain ⟨q, un, fc, ft, fl, fs, bs, fw, fr, fu, hRK⟩ := id hR
  obtain ⟨hG, ho, ⟨hac, hcc⟩, ⟨hat, hfit, htp⟩, ⟨hal, hlit⟩, ⟨has, hst⟩, haw, ⟨har, hzt⟩, ⟨hau, hun, hut⟩, hcol, hinj⟩ := id hRK
  obtain ⟨wtn, wtp, wcc, wln, wsn, wzn, wcol, wlit, wst, wzt⟩ := id hW
  refine ⟨[(0, _), (1, _), (2, _), (3, _), (4, _), (5, _)], rfl, Nat.le_of_ble_eq_true rfl, rfl, ?_⟩
  have t100 : (g_sn s < 64 ∧ ¬ kd < 0 ∧ kd ≤ 7) → (kd < 5 → stFit s kd x op y m1 = true) → J X (9, 99) (jQ X (fun r w' => r = some (.int (sp_step s kd x op y m1).1) ∧ RepC (xG X) w' o (sp_step s kd x op y m1).2) 1 7) w 0 0 100 [(0, .ref o), (1, .int kd), (2, .int x), (3, .int op), (4, .int y), (5, .int m1), (6, va_rf (if kd < 5 then (cix s x).map (q 1) else none)), (7, va_rf (if kd = 4 then (cix s y).map (q 1) else none)), (8, .int (tak kd m1))] [] := by
    intro hb hf
    have hyes : (g_sn s < 64 ∧ ¬ kd < 0 ∧ kd ≤ 7) ∧ (kd < 5 → stFit s kd x op y m1 = true) := ⟨hb, hf⟩
    have hin : vp_in (nI (g_sn s)) 64 := vp_in_nI hb.1 (by omega)
    have hos : o ≠ q 0 3 := jh_ne ho has (by simp)
    refine j_aload_n (i := 0) (t := 101) C d_T_step_100 rfl rfl (by first | exact jrv_r | exact jrv_n | exact jrv_f) rfl ?_
    refine j_get (t := 104) C fl_T_37 d_T_step_101 (by assumption) (by first | rfl | assumption) rfl ?_
    refine j_aload_n (i := 0) (t := 105) C d_T_step_104 rfl rfl (by first | exact jrv_r | exact jrv_n | exact jrv_f) rfl ?_
    refine j_get (t := 108) C fl_T_41 d_T_step_105 (by assumption) (by first | rfl | assumption) rfl ?_
    refine j_newW (t := 111) C nw_T_35 d_T_step_108 (by omega) (by first | omega | (simp only [List.length_cons, List.length_nil]; omega)) rfl (fun a108 w108 n108 e108 h108 f108 => ?_)
    refine j_wide (k' := 1) (n' := 7) (Nat.le_of_ble_eq_true rfl) (Nat.le_of_ble_eq_true rfl) ?_
    have ho108 := f108 _ _ ho
    refine j_dup (t := 112) C d_T_step_111 rfl rfl ?_
    refine j_iload_n (i := 1) (t := 113) C d_T_step_112 rfl rfl rfl ?_
    refine j_aload (t := 115) C d_T_step_113 rfl (by first | exact jrv_r | exact jrv_n | exact jrv_f) rfl ?_
    refine j_iload_n (i := 3) (t := 116) C d_T_step_115 rfl rfl rfl ?_
    refine j_aload (t := 118) C d_T_step_116 rfl (by first | exact jrv_r | exact jrv_n | exact jrv_f) rfl ?_
    refine j_aload_n (i := 0) (t := 119) C d_T_step_118 rfl rfl (by first | exact jrv_r | exact jrv_n | exact jrv_f) rfl ?_
    refine j_get (t := 122) C fl_T_28 d_T_step_119 (by assumption) (by first | rfl | assumption) rfl ?_
    refine j_iload (t := 124) C d_T_step_122 rfl rfl ?_
    refine j_iload (t := 126) C d_T_step_124 rfl rfl ?_
    refine j_callI (As := [_, _, _, _, _, _, _]) (t := 129) C (c_S_init _ a108 kd (if kd < 5 then (cix s x).map (q 1) else none) op (if kd = 4 then (cix s y).map (q 1) else none) (q 0 2) y (tak kd m1)) d_T_step_126 jb_S_init ml_T_114 im_S_init rfl rfl (Nat.le_of_ble_eq_true rfl) (by decide) (by omega) (by omega) (⟨rfl, h108⟩) rfl (fun r126 w126 p126 => ?_)
    obtain ⟨rfl, g1, K126⟩ := p126
    dsimp only [jst]
    have K1 : KA w w126 [] := fun b e _ hb => K126 b e (fun z => n108 (by rw [← List.mem_singleton.mp z]; exact hb.1)) (f108 b e hb)
    have kk : ∀ {a e}, jh w a e → jh w126 a e := fun hb => K1 _ _ (by simp) hb
    have hRK2 := RK_mono hRK K1
    have hob := kk ho
    have has126 := kk has
    have a108s : a108 ≠ q 0 3 := fun z => n108 (by rw [z]; exact has.1)
    have a108o : a108 ≠ o := fun z => n108 (by rw [z]; exact ho.1)
    refine j_lv (st' := [va_rf (some a108), .int (nI (g_sn s)), .ref (q 0 3)]) rfl rfl ?_
    refine j_aastoreW (t := 130) C d_T_step_129 (by assumption) (fun b hb => by cases hb; exact ⟨_, g1⟩) rfl rfl (by assumption) rfl (fun w129 e129 h129 f129 => ?_)
    have ho129 := f129 _ _ hos hob
    rw [nI_clamp (by omega)] at h129
    refine j_aload_n (i := 0) (t := 131) C d_T_step_130 rfl rfl (by first | exact jrv_r | exact jrv_n | exact jrv_f) rfl ?_
    refine j_dup (t := 132) C d_T_step_131 rfl rfl ?_
    refine j_get (t := 135) C fl_T_41 d_T_step_132 (by assumption) (by first | rfl | assumption) rfl ?_
    refine j_iconst (x := 1) (t := 136) C d_T_step_135 rfl rfl ?_
    refine j_iadd (t := 137) C d_T_step_136 rfl ?_
    refine j_putW (t := 140) C fp_T_41 d_T_step_137 (by assumption) (by first | rfl | exact jnar_rf) (by first | rfl | exact jfit_rf) (by first | exact Nat.le_of_ble_eq_true rfl | (simp only [List.length_set]; omega)) rfl (fun w137 e137 h137 f137 => ?_)
    rw [nI_1] at h137
    refine j_aload_n (i := 0) (t := 141) C d_T_step_140 rfl rfl (by first | exact jrv_r | exact jrv_n | exact jrv_f) rfl ?_
    refine j_get (t := 144) C fl_T_41 d_T_step_141 (by assumption) (by first | rfl | assumption) rfl ?_
    refine j_iconst (x := 1) (t := 145) C d_T_step_144 rfl rfl ?_
    refine j_isub (t := 146) C d_T_step_145 rfl ?_
    rw [nI_pred]
    exact j_iret C d_T_step_146 rfl (⟨by simp only [sp_step, if_pos hyes], by
      simp only [sp_step, if_pos hyes]
      have K : KA w126 w137 [o, q 0 3] := (KA.rf.put f129 (by simp)).put f137 (by simp)
      have hS : ∀ a ∈ [o, q 0 3], a = o ∨ ∃ i, i < 7 ∧ a = q 0 i := fun a ha => by
        rcases List.mem_cons.mp ha with z | z
        · exact Or.inl z
        · exact Or.inr ⟨3, by omega, List.mem_singleton.mp z⟩
      have n1 : ∀ {i e}, i < 7 → i ≠ 3 → jh _ (q 0 i) e → (∀ fs, e ≠ eO cT fs) → q 0 i ∉ [o, q 0 3] := fun {i e} hi h1 he hx hm => by
        rcases List.mem_cons.mp hm with z | z
        · exact hx _ (jh_eq he (by rw [z]; exact hob))
        · exact h1 (hinj 0 i 0 3 (vld0 hi) (vld0 (by omega)) (List.mem_singleton.mp z)).2
      obtain ⟨l1, l2⟩ := RK_kl hRK2 hS K
      refine ⟨q, un, fc, ft, fl, va_up fs (g_sn s) (some a108), va_up bs (g_sn s) a108, fw, fr, fu, RK_mk hRK2 hS K h137 ⟨(K _ _ (n1 (by omega) (by omega) (kk hac) (fun _ z => by simp at z)) (kk hac)), hcc⟩ ⟨(K _ _ (n1 (by omega) (by omega) (kk hat) (fun _ z => by simp at z)) (kk hat)), hfit, htp⟩ ⟨(K _ _ (n1 (by omega) (by omega) (kk hal) (fun _ z => by simp at z)) (kk hal)), l1⟩ ⟨f137 _ _ hos.symm h129, fun j hj => ?_⟩ (K _ _ (n1 (by omega) (by omega) (kk haw) (fun _ z => by simp at z)) (kk haw)) ⟨(K _ _ (n1 (by omega) (by omega) (kk har) (fun _ z => by simp at z)) (kk har)), hzt⟩ ⟨(K _ _ (n1 (by omega) (by omega) (kk hau) (fun _ z => by simp at z)) (kk hau)), hun, hut⟩ rfl (fun c _ => ⟨rfl, rfl, rfl, rfl, rfl, rfl, rfl, rfl, rfl⟩)⟩
      have hj : j < g_sn s + 1 := hj
      by_cases z : j = g_sn s
      · subst z
        rw [va_up_self, va_up_self, stF_new wcc hf]
        exact ⟨rfl, f137 _ _ a108o (f129 _ _ a108s g1)⟩
      · rw [va_up_ne _ _ z, va_up_ne _ _ z, stF_old (by omega)]
        exact l2 j (by omega)⟩) (by omega) (by omega)
  have t76 : (g_sn s < 64 ∧ ¬ kd < 0 ∧ kd ≤ 7) → J X (9, 99) (jQ X (fun r w' => r = some (.int (sp_step s kd x op y m1).1) ∧ RepC (xG X) w' o (sp_step s kd x op y m1).2) 1 7) w 0 0 76 [(0, .ref o), (1, .int kd), (2, .int x), (3, .int op), (4, .int y), (5, .int m1), (6, va_rf (if kd < 5 then (cix s x).map (q 1) else none)), (7, va_rf (if kd = 4 then (cix s y).map (q 1) else none)), (8, .int (tak kd m1))] [] := by
    intro hb
    refine j_iload_n (i := 1) (t := 77) C d_T_step_76 rfl rfl rfl ?_
    refine j_iconst (x := 5) (t := 78) C d_T_step_77 rfl rfl ?_
    refine j_icmp_ge (tgt := 100) (t := 81) C d_T_step_78 (by decide) rfl (fun h78 => ?_) (fun h78 => ?_)
    · first | exact t100 hb (fun z => absurd h78 (Int32.not_le.mpr z)) | exact t100 hb (fun _ => by rw [bI_0, Bool.not_eq_false] at h95; exact h95)
    · refine j_aload_n (i := 0) (t := 82) C d_T_step_81 rfl rfl (by first | exact jrv_r | exact jrv_n | exact jrv_f) rfl ?_
      refine j_iload_n (i := 1) (t := 83) C d_T_step_82 rfl rfl rfl ?_
      refine j_aload (t := 85) C d_T_step_83 rfl (by first | exact jrv_r | exact jrv_n | exact jrv_f) rfl ?_
      refine j_iload_n (i := 3) (t := 86) C d_T_step_85 rfl rfl rfl ?_
      refine j_aload (t := 88) C d_T_step_86 rfl (by first | exact jrv_r | exact jrv_n | exact jrv_f) rfl ?_
      refine j_iload (t := 90) C d_T_step_88 rfl rfl ?_
      refine j_iload (t := 92) C d_T_step_90 rfl rfl ?_
      refine j_callV (As := [_, _, _, _, _, _]) (t := 95) C (c_T_fits _ o _ _ _ _ (q 0 2) _ _ _ _ _ _ _ (g_ln s) fl (g_lit s) kd (if kd < 5 then (cix s x).map (q 1) else none) op (if kd = 4 then (cix s y).map (q 1) else none) y (tak kd m1) (cty s (cix s x)) (cty s (cix s y))) d_T_step_92 jb_T_fits ml_T_110 jv_T_fits (by assumption) rfl rfl rfl (Nat.le_of_ble_eq_true rfl) (by decide) (by omega) (by omega) (⟨rfl, ho, ⟨hal, wln, hlit⟩, st_c1 wcc hcol, st_c2 wcc hcol⟩) rfl (fun r92 w92 p92 => ?_)
      obtain ⟨rfl, rfl⟩ := p92
      dsimp only [jst]
      rw [show fitS kd (Option.isSome (if kd < 5 then (cix s x).map (q 1) else none)) (cty s (cix s x)) op (Option.isSome (if kd = 4 then (cix s y).map (q 1) else none)) (cty s (cix s y)) y (tak kd m1) (g_ln s) (g_lit s) = stFit s kd x op y m1 from st_fit (Int32.not_le.mp h78)]
      refine j_if_ne (tgt := 100) (t := 98) C d_T_step_95 (by decide) rfl (fun h95 => ?_) (fun h95 => ?_)
      · first | exact t100 hb (fun z => absurd h78 (Int32.not_le.mpr z)) | exact t100 hb (fun _ => by rw [bI_0, Bool.not_eq_false] at h95; exact h95)
      · refine j_iconst (x := (-1)) (t := 99) C d_T_step_98 rfl rfl ?_
        exact j_iret C d_T_step_99 rfl (by have hno : ¬ ((g_sn s < 64 ∧ ¬ kd < 0 ∧ kd ≤ 7) ∧ (kd < 5 → stFit s kd x op y m1 = true)) := (fun z => absurd (bI_0.mp h95) (by rw [z.2 (Int32.not_le.mp h78)]; decide)); exact ⟨by simp only [sp_step, if_neg hno], by simp only [sp_step, if_neg hno]; exact hR⟩) (by omega) (by omega)
  have t54 : (g_sn s < 64 ∧ ¬ kd < 0 ∧ kd ≤ 7) → J X (9, 99) (jQ X (fun r w' => r = some (.int (sp_step s kd x op y m1).1) ∧ RepC (xG X) w' o (sp_step s kd x op y m1).2) 1 7) w 0 0 54 [(0, .ref o), (1, .int kd), (2, .int x), (3, .int op), (4, .int y), (5, .int m1), (6, va_rf (if kd < 5 then (cix s x).map (q 1) else none)), (7, va_rf (if kd = 4 then (cix s y).map (q 1) else none))] [] := by
    intro hb
    refine j_iload_n (i := 1) (t := 55) C d_T_step_54 rfl rfl rfl ?_
    refine j_iconst (x := 2) (t := 56) C d_T_step_55 rfl rfl ?_
    refine j_icmp_ne (tgt := 64) (t := 59) C d_T_step_56 (by decide) rfl (fun h56 => ?_) (fun h56 => ?_)
    · refine j_iload_n (i := 1) (t := 65) C d_T_step_64 rfl rfl rfl ?_
      refine j_iconst (x := 3) (t := 66) C d_T_step_65 rfl rfl ?_
      refine j_icmp_ne (tgt := 73) (t := 69) C d_T_step_66 (by decide) rfl (fun h66 => ?_) (fun h66 => ?_)
      · refine j_iconst (x := 0) (t := 74) C d_T_step_73 rfl rfl ?_
        refine j_istore (i := 8) (t := 76) (lv' := [(0, _), (1, _), (2, _), (3, _), (4, _), (5, _), (6, _), (7, _), (8, _)]) C d_T_step_74 (by decide) (by decide) rfl rfl ?_
        refine j_lv (lv' := [(0, .ref o), (1, .int kd), (2, .int x), (3, .int op), (4, .int y), (5, .int m1), (6, va_rf (if kd < 5 then (cix s x).map (q 1) else none)), (7, va_rf (if kd = 4 then (cix s y).map (q 1) else none)), (8, .int (tak kd m1))]) (by unfold tak; first | rw [if_pos h56] | rw [if_neg h56, if_pos h66] | rw [if_neg h56, if_neg h66]) rfl ?_
        exact t76 hb
      · refine j_iconst (x := 1) (t := 70) C d_T_step_69 rfl rfl ?_
        refine j_goto (tgt := 74) C d_T_step_70 (by decide) ?_
        refine j_istore (i := 8) (t := 76) (lv' := [(0, _), (1, _), (2, _), (3, _), (4, _), (5, _), (6, _), (7, _), (8, _)]) C d_T_step_74 (by decide) (by decide) rfl rfl ?_
        refine j_lv (lv' := [(0, .ref o), (1, .int kd), (2, .int x), (3, .int op), (4, .int y), (5, .int m1), (6, va_rf (if kd < 5 then (cix s x).map (q 1) else none)), (7, va_rf (if kd = 4 then (cix s y).map (q 1) else none)), (8, .int (tak kd m1))]) (by unfold tak; first | rw [if_pos h56] | rw [if_neg h56, if_pos h66] | rw [if_neg h56, if_neg h66]) rfl ?_
        exact t76 hb
    · refine j_iload (t := 61) C d_T_step_59 rfl rfl ?_
      refine j_goto (tgt := 74) C d_T_step_61 (by decide) ?_
      refine j_istore (i := 8) (t := 76) (lv' := [(0, _), (1, _), (2, _), (3, _), (4, _), (5, _), (6, _), (7, _), (8, _)]) C d_T_step_74 (by decide) (by decide) rfl rfl ?_
      refine j_lv (lv' := [(0, .ref o), (1, .int kd), (2, .int x), (3, .int op), (4, .int y), (5, .int m1), (6, va_rf (if kd < 5 then (cix s x).map (q 1) else none)), (7, va_rf (if kd = 4 then (cix s y).map (q 1) else none)), (8, .int (tak kd m1))]) (by unfold tak; first | rw [if_pos h56] | rw [if_neg h56, if_pos h66] | rw [if_neg h56, if_neg h66]) rfl ?_
      exact t76 hb
  have t37 : (g_sn s < 64 ∧ ¬ kd < 0 ∧ kd ≤ 7) → J X (9, 99) (jQ X (fun r w' => r = some (.int (sp_step s kd x op y m1).1) ∧ RepC (xG X) w' o (sp_step s kd x op y m1).2) 1 7) w 0 0 37 [(0, .ref o), (1, .int kd), (2, .int x), (3, .int op), (4, .int y), (5, .int m1), (6, va_rf (if kd < 5 then (cix s x).map (q 1) else none))] [] := by
    intro hb
    refine j_iload_n (i := 1) (t := 38) C d_T_step_37 rfl rfl rfl ?_
    refine j_iconst (x := 4) (t := 39) C d_T_step_38 rfl rfl ?_
    refine j_icmp_ne (tgt := 51) (t := 42) C d_T_step_39 (by decide) rfl (fun h39 => ?_) (fun h39 => ?_)
    · refine j_null (t := 52) C d_T_step_51 rfl ?_
      refine j_astore (i := 7) (t := 54) (lv' := [(0, _), (1, _), (2, _), (3, _), (4, _), (5, _), (6, _), (7, _)]) C d_T_step_52 (by first | exact jrv_r | exact jrv_n | exact jrv_f) (by decide) (by decide) rfl rfl ?_
      refine j_lv (lv' := [(0, .ref o), (1, .int kd), (2, .int x), (3, .int op), (4, .int y), (5, .int m1), (6, va_rf (if kd < 5 then (cix s x).map (q 1) else none)), (7, va_rf (if kd = 4 then (cix s y).map (q 1) else none))]) (by first | (rw [if_pos h39]; done) | (rw [if_neg h39]; rfl)) rfl ?_
      exact t54 hb
    · refine j_aload_n (i := 0) (t := 43) C d_T_step_42 rfl rfl (by first | exact jrv_r | exact jrv_n | exact jrv_f) rfl ?_
      refine j_iload (t := 45) C d_T_step_43 rfl rfl ?_
      refine j_callV (As := [_]) (t := 48) C (c_T_columnAt _ o (q 0 0) _ (g_cc s) fc y) d_T_step_45 jb_T_columnAt ml_T_66 jv_T_columnAt (by assumption) rfl rfl rfl (Nat.le_of_ble_eq_true rfl) (by decide) (by omega) (by omega) (⟨rfl, ho, rfl, rfl, hac, wcc⟩) rfl (fun r45 w45 p45 => ?_)
      obtain ⟨rfl, rfl⟩ := p45
      dsimp only [jst]
      rw [vAt_cix wcc hcc]
      refine j_goto (tgt := 52) C d_T_step_48 (by decide) ?_
      refine j_astore (i := 7) (t := 54) (lv' := [(0, _), (1, _), (2, _), (3, _), (4, _), (5, _), (6, _), (7, _)]) C d_T_step_52 (by first | exact jrv_r | exact jrv_n | exact jrv_f) (by decide) (by decide) rfl rfl ?_
      refine j_lv (lv' := [(0, .ref o), (1, .int kd), (2, .int x), (3, .int op), (4, .int y), (5, .int m1), (6, va_rf (if kd < 5 then (cix s x).map (q 1) else none)), (7, va_rf (if kd = 4 then (cix s y).map (q 1) else none))]) (by first | (rw [if_pos h39]; done) | (rw [if_neg h39]; rfl)) rfl ?_
      exact t54 hb
  refine j_aload_n (i := 0) (t := 1) C d_T_step_0 rfl rfl (by first | exact jrv_r | exact jrv_n | exact jrv_f) rfl ?_
  refine j_get (t := 4) C fl_T_41 d_T_step_1 (by assumption) (by first | rfl | assumption) rfl ?_
  refine j_bipush (x := 64) (t := 6) C d_T_step_4 rfl rfl ?_
  refine j_icmp_ge (tgt := 19) (t := 9) C d_T_step_6 (by decide) rfl (fun h6 => ?_) (fun h6 => ?_)
  · refine j_iconst (x := (-1)) (t := 20) C d_T_step_19 rfl rfl ?_
    exact j_iret C d_T_step_20 rfl (by first | (have hno : ¬ ((g_sn s < 64 ∧ ¬ kd < 0 ∧ kd ≤ 7) ∧ (kd < 5 → stFit s kd x op y m1 = true)) := fun z => absurd ((nI_leI (a := 64) (by omega) (by omega)).mp h6) (by omega); exact ⟨by simp only [sp_step, if_neg hno], by simp only [sp_step, if_neg hno]; exact hR⟩) | (have hno : ¬ ((g_sn s < 64 ∧ ¬ kd < 0 ∧ kd ≤ 7) ∧ (kd < 5 → stFit s kd x op y m1 = true)) := fun z => z.1.2.1 h10; exact ⟨by simp only [sp_step, if_neg hno], by simp only [sp_step, if_neg hno]; exact hR⟩) | (have hno : ¬ ((g_sn s < 64 ∧ ¬ kd < 0 ∧ kd ≤ 7) ∧ (kd < 5 → stFit s kd x op y m1 = true)) := fun z => h16 z.1.2.2; exact ⟨by simp only [sp_step, if_neg hno], by simp only [sp_step, if_neg hno]; exact hR⟩)) (by omega) (by omega)
  · refine j_iload_n (i := 1) (t := 10) C d_T_step_9 rfl rfl rfl ?_
    refine j_if_lt (tgt := 19) (t := 13) C d_T_step_10 (by decide) rfl (fun h10 => ?_) (fun h10 => ?_)
    · refine j_iconst (x := (-1)) (t := 20) C d_T_step_19 rfl rfl ?_
      exact j_iret C d_T_step_20 rfl (by first | (have hno : ¬ ((g_sn s < 64 ∧ ¬ kd < 0 ∧ kd ≤ 7) ∧ (kd < 5 → stFit s kd x op y m1 = true)) := fun z => absurd ((nI_leI (a := 64) (by omega) (by omega)).mp h6) (by omega); exact ⟨by simp only [sp_step, if_neg hno], by simp only [sp_step, if_neg hno]; exact hR⟩) | (have hno : ¬ ((g_sn s < 64 ∧ ¬ kd < 0 ∧ kd ≤ 7) ∧ (kd < 5 → stFit s kd x op y m1 = true)) := fun z => z.1.2.1 h10; exact ⟨by simp only [sp_step, if_neg hno], by simp only [sp_step, if_neg hno]; exact hR⟩) | (have hno : ¬ ((g_sn s < 64 ∧ ¬ kd < 0 ∧ kd ≤ 7) ∧ (kd < 5 → stFit s kd x op y m1 = true)) := fun z => h16 z.1.2.2; exact ⟨by simp only [sp_step, if_neg hno], by simp only [sp_step, if_neg hno]; exact hR⟩)) (by omega) (by omega)
    · refine j_iload_n (i := 1) (t := 14) C d_T_step_13 rfl rfl rfl ?_
      refine j_bipush (x := 7) (t := 16) C d_T_step_14 rfl rfl ?_
      refine j_icmp_le (tgt := 21) (t := 19) C d_T_step_16 (by decide) rfl (fun h16 => ?_) (fun h16 => ?_)
      · have hn64 : g_sn s < 64 := by rcases Nat.lt_or_ge (g_sn s) 64 with z | z; exact z; exact absurd (nI_le (a := 64) z (by omega)) h6
        refine j_iload_n (i := 1) (t := 22) C d_T_step_21 rfl rfl rfl ?_
        refine j_iconst (x := 5) (t := 23) C d_T_step_22 rfl rfl ?_
        refine j_icmp_ge (tgt := 34) (t := 26) C d_T_step_23 (by decide) rfl (fun h23 => ?_) (fun h23 => ?_)
        · refine j_null (t := 35) C d_T_step_34 rfl ?_
          refine j_astore (i := 6) (t := 37) (lv' := [(0, _), (1, _), (2, _), (3, _), (4, _), (5, _), (6, _)]) C d_T_step_35 (by first | exact jrv_r | exact jrv_n | exact jrv_f) (by decide) (by decide) rfl rfl ?_
          refine j_lv (lv' := [(0, .ref o), (1, .int kd), (2, .int x), (3, .int op), (4, .int y), (5, .int m1), (6, va_rf (if kd < 5 then (cix s x).map (q 1) else none))]) (by first | (rw [if_pos (Int32.not_le.mp h23)]; done) | (rw [if_neg (Int32.not_lt.mpr h23)]; rfl)) rfl ?_
          exact t37 ⟨hn64, h10, h16⟩
        · refine j_aload_n (i := 0) (t := 27) C d_T_step_26 rfl rfl (by first | exact jrv_r | exact jrv_n | exact jrv_f) rfl ?_
          refine j_iload_n (i := 2) (t := 28) C d_T_step_27 rfl rfl rfl ?_
          refine j_callV (As := [_]) (t := 31) C (c_T_columnAt _ o (q 0 0) _ (g_cc s) fc x) d_T_step_28 jb_T_columnAt ml_T_66 jv_T_columnAt (by assumption) rfl rfl rfl (Nat.le_of_ble_eq_true rfl) (by decide) (by omega) (by omega) (⟨rfl, ho, rfl, rfl, hac, wcc⟩) rfl (fun r28 w28 p28 => ?_)
          obtain ⟨rfl, rfl⟩ := p28
          dsimp only [jst]
          rw [vAt_cix wcc hcc]
          refine j_goto (tgt := 35) C d_T_step_31 (by decide) ?_
          refine j_astore (i := 6) (t := 37) (lv' := [(0, _), (1, _), (2, _), (3, _), (4, _), (5, _), (6, _)]) C d_T_step_35 (by first | exact jrv_r | exact jrv_n | exact jrv_f) (by decide) (by decide) rfl rfl ?_
          refine j_lv (lv' := [(0, .ref o), (1, .int kd), (2, .int x), (3, .int op), (4, .int y), (5, .int m1), (6, va_rf (if kd < 5 then (cix s x).map (q 1) else none))]) (by first | (rw [if_pos (Int32.not_le.mp h23)]; done) | (rw [if_neg (Int32.not_lt.mpr h23)]; rfl)) rfl ?_
          exact t37 ⟨hn64, h10, h16⟩
      · refine j_iconst (x := (-1)) (t := 20) C d_T_step_19 rfl rfl ?_
        exact j_iret C d_T_step_20 rfl (by first | (have hno : ¬ ((g_sn s < 64 ∧ ¬ kd < 0 ∧ kd ≤ 7) ∧ (kd < 5 → stFit s kd x op y m1 = true)) := fun z => absurd ((nI_leI (a := 64) (by omega) (by omega)).mp h6) (by omega); exact ⟨by simp only [sp_step, if_neg hno], by simp only [sp_step, if_neg hno]; exact hR⟩) | (have hno : ¬ ((g_sn s < 64 ∧ ¬ kd < 0 ∧ kd ≤ 7) ∧ (kd < 5 → stFit s kd x op y m1 = true)) := fun z => z.1.2.1 h10; exact ⟨by simp only [sp_step, if_neg hno], by simp only [sp_step, if_neg hno]; exact hR⟩) | (have hno : ¬ ((g_sn s < 64 ∧ ¬ kd < 0 ∧ kd ≤ 7) ∧ (kd < 5 → stFit s kd x op y m1 = true)) := fun z => h16 z.1.2.2; exact ⟨by simp only [sp_step, if_neg hno], by simp only [sp_step, if_neg hno]; exact hR⟩)) (by omega) (by omega)
