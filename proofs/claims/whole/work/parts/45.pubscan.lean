theorem nI_m1 {i : Nat} (h : i < 2 ^ 31) : ¬ nI i = -1 := fun z => by
  have h1 := nI_pos h
  rw [z] at h1
  exact h1 (by decide)
theorem scan_push {z : Nat → Int32} {fui : Nat → Int32} {u i : Nat} (hu : u = cnt z i) (h : ∀ k, k < u → ∃ r, r < i ∧ fui k = nI r ∧ z r = 2 ∧ cnt z r = k) (hz : z i = 2) : ∀ k, k < u + 1 → ∃ r, r < i + 1 ∧ upd fui u (nI i) k = nI r ∧ z r = 2 ∧ cnt z r = k := by
  intro k hk
  by_cases q : k = u
  · subst q
    exact ⟨i, by omega, upd_self, hz, hu.symm⟩
  · rw [upd_ne q]
    obtain ⟨r, r1, r2⟩ := h k (by omega)
    exact ⟨r, by omega, r2⟩
theorem scan_shR {s : jS} {q : Nat → Nat → Nat} {n : Nat} : sHR (fun j => if g_sk s j < 5 then some (q 1 (g_sc s j)) else none) (fun j => g_rc s (g_sc s j)) (fun j => if g_sk s j = 4 then some (q 1 (oP s j)) else none) (fun j => g_rc s (oP s j)) n (g_sn s) = shR s n := by
  unfold shR
  refine sHR_congr (fun j => ?_) (fun j => ?_) _
  · by_cases h : g_sk s j < 5 <;> simp [h]
  · by_cases h : g_sk s j = 4 <;> simp [h]
theorem scan_rows {G : jG} {w : jw} {s : jS} {q : Nat → Nat → Nat} {fs : Nat → Option Nat} {bs : Nat → Nat} (hW : WF s) (hcol : ∀ c, c < g_cc s → colC G w q s c) (hst : ∀ j, j < g_sn s → fs j = some (bs j) ∧ jh w (bs j) (eO cS (stF q s j))) : ∀ j, j < g_sn s → fs j = some (bs j) ∧ ∃ f, jh w (bs j) (eO cS f) ∧ f[1]? = some (va_rf ((fun j => if g_sk s j < 5 then some (q 1 (g_sc s j)) else none) j)) ∧ f[3]? = some (va_rf ((fun j => if g_sk s j = 4 then some (q 1 (oP s j)) else none) j)) ∧ (∀ c, (fun j => if g_sk s j < 5 then some (q 1 (g_sc s j)) else none) j = some c → (fun j => g_rc s (g_sc s j)) j ≤ 1000 ∧ ∃ cfs, jh w c (eO cC cfs) ∧ cfs[2]? = some (.int (nI ((fun j => g_rc s (g_sc s j)) j)))) ∧ (∀ c, (fun j => if g_sk s j = 4 then some (q 1 (oP s j)) else none) j = some c → (fun j => g_rc s (oP s j)) j ≤ 1000 ∧ ∃ cfs, jh w c (eO cC cfs) ∧ cfs[2]? = some (.int (nI ((fun j => g_rc s (oP s j)) j)))) := by
  obtain ⟨wtn, wtp, wcc, wln, wsn, wzn, wcol, wlit, wst, wzt⟩ := hW
  intro j hj
  obtain ⟨-, hsc, -, -, hs4⟩ := wst j hj
  refine ⟨(hst j hj).1, _, (hst j hj).2, rfl, rfl, fun c hc => ?_, fun c hc => ?_⟩
  · by_cases h : g_sk s j < 5
    · simp only [if_pos h] at hc
      cases hc
      obtain ⟨fr1, kr1, km1, lA, hA, fe, ec1, fs1, k1, -⟩ := hcol _ (hsc h)
      exact ⟨(wcol _ (hsc h)).2.1, _, k1, rfl⟩
    · simp only [if_neg h] at hc
      cases hc
  · by_cases h : g_sk s j = 4
    · simp only [if_pos h] at hc
      cases hc
      obtain ⟨-, P, e1, e3, -⟩ := hs4 h
      have hP : oP s j = P := by show (g_sp s j).toNatClampNeg = P; rw [e1]; exact nI_clamp (by omega)
      obtain ⟨fr1, kr1, km1, lA, hA, fe, ec1, fs1, k1, -⟩ := hcol P e3
      show g_rc s (oP s j) ≤ 1000 ∧ ∃ cfs, jh w (q 1 (oP s j)) (eO cC cfs) ∧ cfs[2]? = some (.int (nI (g_rc s (oP s j))))
      rw [hP]
      exact ⟨(wcol P e3).2.1, _, k1, rfl⟩
    · simp only [if_neg h] at hc
      cases hc
set_option maxHeartbeats 4000000 in
set_option maxRecDepth 100000 in
/-- scan -/
theorem c_T_scan (l : Launch) (o : Nat) (s : jS) (n : Int32) : MC l y_T_scan b_T_scan 3 (some .int) 6 0 0
    (fun G w av => av = [.ref o, .int n] ∧ RepC G w o s ∧ WF s)
    (fun G w av r w' => r = some (.int (sp_scan s n).1) ∧ RepC G w' o (sp_scan s n).2) := by
  refine MC.of 99 (by decide) ?_
  intro X w av hl C hnm hp
  obtain ⟨rfl, hR, hW⟩ := hp
  obtain ⟨q, un, fc, ft, fl, fs, bs, fw, fr, fu, hRK⟩ := id hR
  obtain ⟨hG, ho, ⟨hac, hcc⟩, ⟨hat, hfit, htp⟩, ⟨hal, hlit⟩, ⟨has, hst⟩, haw, ⟨har, hzt⟩, ⟨hau, hun, hut⟩, hcol, hinj⟩ := id hRK
  obtain ⟨wtn, wtp, wcc, wln, wsn, wzn, wcol, wlit, wst, wzt⟩ := id hW
  have n45 : q 0 4 ≠ q 0 5 := fun z => absurd (hinj 0 4 0 5 (vld0 (by omega)) (vld0 (by omega)) z).2 (by omega)
  have n46 : q 0 4 ≠ q 0 6 := fun z => absurd (hinj 0 4 0 6 (vld0 (by omega)) (vld0 (by omega)) z).2 (by omega)
  have n56 : q 0 5 ≠ q 0 6 := fun z => absurd (hinj 0 5 0 6 (vld0 (by omega)) (vld0 (by omega)) z).2 (by omega)
  have o4 : o ≠ q 0 4 := jh_ne ho haw (by simp)
  have o5 : o ≠ q 0 5 := jh_ne ho har (by simp)
  have o6 : o ≠ q 0 6 := jh_ne ho hau (by simp)
  have hS : ∀ a ∈ [o, q 0 4, q 0 5, q 0 6], a = o ∨ ∃ i, i < 7 ∧ a = q 0 i := fun a ha => by
    simp only [List.mem_cons, List.not_mem_nil, or_false] at ha
    rcases ha with z | z | z | z
    · exact Or.inl z
    · exact Or.inr ⟨4, by omega, z⟩
    · exact Or.inr ⟨5, by omega, z⟩
    · exact Or.inr ⟨6, by omega, z⟩
  have nS : ∀ {i e}, i < 4 → jh w (q 0 i) e → (∀ fs, e ≠ eO cT fs) → q 0 i ∉ [o, q 0 4, q 0 5, q 0 6] := fun {i e} hi he hx hm => by
    simp only [List.mem_cons, List.not_mem_nil, or_false] at hm
    rcases hm with z | z | z | z
    · exact hx _ (jh_eq he (by rw [z]; exact ho))
    · exact absurd (hinj 0 i 0 4 (vld0 (by omega)) (vld0 (by omega)) z).2 (by omega)
    · exact absurd (hinj 0 i 0 5 (vld0 (by omega)) (vld0 (by omega)) z).2 (by omega)
    · exact absurd (hinj 0 i 0 6 (vld0 (by omega)) (vld0 (by omega)) z).2 (by omega)
  refine ⟨[(0, _), (1, _)], rfl, Nat.le_of_ble_eq_true rfl, rfl, ?_⟩
  have loop : ∀ N1, N1 ≤ 1000 → isCnd (g_sk s) (g_sn s) = true → shR s N1 = true → ∀ (qq i u : Nat) (wi : jw) (fwi fri fui : Nat → Int32), N1 + 1 ≤ i + qq → i ≤ N1 → jh wi o (eO cT (tFs (q 0 0) (nI (g_cc s)) (q 0 1) (nI (g_tn s)) (q 0 2) (nI (g_ln s)) (q 0 3) (nI (g_sn s)) (q 0 4) (q 0 5) (nI N1) (q 0 6) (nI u))) → jh wi (q 0 4) (eI (xG X) 64 fwi) → jh wi (q 0 5) (eI (xG X) 1000 fri) → (∀ j, j < i → fri j = zS s j) → jh wi (q 0 6) (eI (xG X) 1000 fui) → u = cnt (zS s) i → (∀ k, k < u → ∃ r, r < i ∧ fui k = nI r ∧ zS s r = 2 ∧ cnt (zS s) r = k) → KA w wi [o, q 0 4, q 0 5, q 0 6] → J X (3, 99) (jQ X (fun r w' => r = some (.int (sp_scan s (nI N1)).1) ∧ RepC (xG X) w' o (sp_scan s (nI N1)).2) 0 0) wi 0 0 40 [(0, .ref o), (1, .int (nI N1)), (2, .int (nI i))] [] := by
    intro N1 hN1 hcn hsr qq
    have hyes : ¬ nI N1 < 0 ∧ nI N1 ≤ 1000 ∧ isCnd (g_sk s) (g_sn s) = true ∧ shR s (nI N1).toNatClampNeg = true := ⟨nI_pos (by omega), nI_le (b := 1000) hN1 (by omega), hcn, by rw [nI_clamp (by omega)]; exact hsr⟩
    induction qq with
    | zero => intro i u wi fwi fri fui h1 h2; omega
    | succ qq ih =>
      intro i u wi fwi fri fui hi1 hi2 hoi h4i h5i hzi h6i hu hui hKi
      have hui1 : u ≤ i := by rw [hu]; exact cnt_le _
      obtain ⟨l1, l2⟩ := RK_kl hRK hS hKi
      have hcli := RK_parts hRK hS hKi
      have hasi := hKi _ _ (nS (by omega) has (fun _ z => by simp at z)) has
      have hali := hKi _ _ (nS (by omega) hal (fun _ z => by simp at z)) hal
      refine j_iload_n (i := 2) (t := 41) C d_T_scan_40 rfl rfl rfl ?_
      refine j_iload_n (i := 1) (t := 42) C d_T_scan_41 rfl rfl rfl ?_
      refine j_icmp_ge (tgt := 92) (t := 45) C d_T_scan_42 (by decide) rfl (fun h42 => ?_) (fun h42 => ?_)
      · have hie : i = N1 := by rw [nI_leI (by omega) (by omega)] at h42; omega
        subst hie
        have hsp : sp_scan s (nI i) = (nI (cnt (zS s) i), s_zt (s_zn s i) (zS s)) := by
          unfold sp_scan
          rw [if_pos hyes, nI_clamp (by omega)]
        refine j_aload_n (i := 0) (t := 93) C d_T_scan_92 rfl rfl (by first | exact jrv_r | exact jrv_n | exact jrv_f) rfl ?_
        refine j_get (t := 96) C fl_T_57 d_T_scan_93 (by assumption) (by first | rfl | assumption) rfl ?_
        exact j_iret C d_T_scan_96 rfl (⟨by rw [hsp, ← hu], by
        rw [hsp]
        exact ⟨q, u, fc, ft, fl, fs, bs, fwi, fri, fui, RK_mk hRK hS hKi hoi ⟨hKi _ _ (nS (by omega) hac (fun _ z => by simp at z)) hac, hcc⟩ ⟨hKi _ _ (nS (by omega) hat (fun _ z => by simp at z)) hat, hfit, htp⟩ ⟨hali, l1⟩ ⟨hasi, l2⟩ h4i ⟨h5i, hzi⟩ ⟨h6i, hu, hui⟩ rfl (fun c _ => ⟨rfl, rfl, rfl, rfl, rfl, rfl, rfl, rfl, rfl⟩)⟩⟩) (by omega) (by omega)
      · rw [nI_leI (by omega) (by omega)] at h42
        have hin : vp_in (nI i) 1000 := vp_in_nI (by omega) (by omega)
        refine j_aload_n (i := 0) (t := 46) C d_T_scan_45 rfl rfl (by first | exact jrv_r | exact jrv_n | exact jrv_f) rfl ?_
        refine j_get (t := 49) C fl_T_48 d_T_scan_46 (by assumption) (by first | rfl | assumption) rfl ?_
        refine j_iload_n (i := 2) (t := 50) C d_T_scan_49 rfl rfl rfl ?_
        refine j_aload_n (i := 0) (t := 51) C d_T_scan_50 rfl rfl (by first | exact jrv_r | exact jrv_n | exact jrv_f) rfl ?_
        refine j_iload_n (i := 2) (t := 52) C d_T_scan_51 rfl rfl rfl ?_
        refine j_callV (As := [_]) (t := 55) C (c_T_outcome _ o _ _ _ _ _ _ _ _ _ _ _ _ (g_sn s) fs fwi bs (g_sk s) (rAt s i) (nI i)) d_T_scan_52 jb_T_outcome ml_T_124 jv_T_outcome (by assumption) rfl rfl rfl (Nat.le_of_ble_eq_true rfl) (by decide) (by omega) (by omega) (⟨rfl, hG, hoi, hasi, h4i, wsn, hcn, fun j hj => ⟨(l2 j hj).1, _, (l2 j hj).2, rfl⟩, fun z => absurd z (nI_m1 (by omega)), fun _ => ⟨i, rfl, fun j hj h5 => step_row2 hali l1 l2 hcli hW hj h5 (shR_rows hsr hj (by omega))⟩⟩) rfl (fun r52 w52 p52 => ?_)
        obtain ⟨rfl, ⟨fw2, hw2⟩, K52, -⟩ := p52
        dsimp only [jst]
        have ho52 := K52 _ _ (by simp; exact o4) hoi
        have h552 := K52 _ _ (by simp; exact n45.symm) h5i
        have h652 := K52 _ _ (by simp; exact n46.symm) h6i
        refine j_iastoreW (t := 56) C d_T_scan_55 (by assumption) (by assumption) rfl (fun w55 e55 h55 f55 => ?_)
        rw [nI_clamp (by omega)] at h55
        have ho55 := f55 _ _ o5 ho52
        have h455 := f55 _ _ n45 hw2
        have h655 := f55 _ _ n56.symm h652
        have hz55 : ∀ j, j < i + 1 → upd fri i (outc (rAt s i) (g_sk s) (g_sn s)) j = zS s j := fun j hj => by
          by_cases z : j = i
          · subst z; rw [upd_self]; rfl
          · rw [upd_ne z]; exact hzi j (by omega)
        refine j_aload_n (i := 0) (t := 57) C d_T_scan_56 rfl rfl (by first | exact jrv_r | exact jrv_n | exact jrv_f) rfl ?_
        refine j_get (t := 60) C fl_T_48 d_T_scan_57 (by assumption) (by first | rfl | assumption) rfl ?_
        refine j_iload_n (i := 2) (t := 61) C d_T_scan_60 rfl rfl rfl ?_
        refine j_iaload (t := 62) C d_T_scan_61 (by assumption) (by assumption) rfl ?_
        rw [nI_clamp (by omega), hz55 i (by omega)]
        refine j_iconst (x := 2) (t := 63) C d_T_scan_62 rfl rfl ?_
        refine j_icmp_ne (tgt := 86) (t := 66) C d_T_scan_63 (by decide) rfl (fun h63 => ?_) (fun h63 => ?_)
        · refine j_iinc (y := _ + 1) (t := 89) (lv' := [(0, _), (1, _), (2, _)]) C d_T_scan_86 rfl rfl (by decide) (by decide) rfl rfl ?_
          refine j_goto (tgt := 40) C d_T_scan_89 (by decide) ?_
          rw [nI_1]
          first
          | exact ih (i + 1) (u + 1) w83 fw2 _ _ (by omega) (by omega) h83 h483 h583 hz55 h683 (by rw [cnt_t h63, hu]) (scan_push hu hui h63) ((((hKi.tr K52 (by simp)).put f55 (by simp)).put f75 (by simp)).put f83 (by simp))
          | exact ih (i + 1) u w55 fw2 _ _ (by omega) (by omega) ho55 h455 h55 hz55 h655 (by rw [cnt_f h63, hu]) (fun k hk => by obtain ⟨r, r1, r2⟩ := hui k hk; exact ⟨r, by omega, r2⟩) ((hKi.tr K52 (by simp)).put f55 (by simp))
        · have hin2 : vp_in (nI u) 1000 := vp_in_nI (by omega) (by omega)
          refine j_aload_n (i := 0) (t := 67) C d_T_scan_66 rfl rfl (by first | exact jrv_r | exact jrv_n | exact jrv_f) rfl ?_
          refine j_get (t := 70) C fl_T_54 d_T_scan_67 (by assumption) (by first | rfl | assumption) rfl ?_
          refine j_aload_n (i := 0) (t := 71) C d_T_scan_70 rfl rfl (by first | exact jrv_r | exact jrv_n | exact jrv_f) rfl ?_
          refine j_get (t := 74) C fl_T_57 d_T_scan_71 (by assumption) (by first | rfl | assumption) rfl ?_
          refine j_iload_n (i := 2) (t := 75) C d_T_scan_74 rfl rfl rfl ?_
          refine j_iastoreW (t := 76) C d_T_scan_75 (by assumption) (by assumption) rfl (fun w75 e75 h75 f75 => ?_)
          rw [nI_clamp (by omega)] at h75
          have ho75 := f75 _ _ o6 ho55
          have h475 := f75 _ _ n46 h455
          have h575 := f75 _ _ n56 h55
          refine j_aload_n (i := 0) (t := 77) C d_T_scan_76 rfl rfl (by first | exact jrv_r | exact jrv_n | exact jrv_f) rfl ?_
          refine j_dup (t := 78) C d_T_scan_77 rfl rfl ?_
          refine j_get (t := 81) C fl_T_57 d_T_scan_78 (by assumption) (by first | rfl | assumption) rfl ?_
          refine j_iconst (x := 1) (t := 82) C d_T_scan_81 rfl rfl ?_
          refine j_iadd (t := 83) C d_T_scan_82 rfl ?_
          refine j_putW (t := 86) C fp_T_57 d_T_scan_83 (by assumption) (by first | rfl | exact jnar_rf) (by first | rfl | exact jfit_rf) (by first | exact Nat.le_of_ble_eq_true rfl | (simp only [List.length_set]; omega)) rfl (fun w83 e83 h83 f83 => ?_)
          rw [nI_1] at h83
          have h483 := f83 _ _ o4.symm h475
          have h583 := f83 _ _ o5.symm h575
          have h683 := f83 _ _ o6.symm h75
          refine j_iinc (y := _ + 1) (t := 89) (lv' := [(0, _), (1, _), (2, _)]) C d_T_scan_86 rfl rfl (by decide) (by decide) rfl rfl ?_
          refine j_goto (tgt := 40) C d_T_scan_89 (by decide) ?_
          rw [nI_1]
          first
          | exact ih (i + 1) (u + 1) w83 fw2 _ _ (by omega) (by omega) h83 h483 h583 hz55 h683 (by rw [cnt_t h63, hu]) (scan_push hu hui h63) ((((hKi.tr K52 (by simp)).put f55 (by simp)).put f75 (by simp)).put f83 (by simp))
          | exact ih (i + 1) u w55 fw2 _ _ (by omega) (by omega) ho55 h455 h55 hz55 h655 (by rw [cnt_f h63, hu]) (fun k hk => by obtain ⟨r, r1, r2⟩ := hui k hk; exact ⟨r, by omega, r2⟩) ((hKi.tr K52 (by simp)).put f55 (by simp))
  refine j_iload_n (i := 1) (t := 1) C d_T_scan_0 rfl rfl rfl ?_
  refine j_if_lt (tgt := 26) (t := 4) C d_T_scan_1 (by decide) rfl (fun h1 => ?_) (fun h1 => ?_)
  · refine j_iconst (x := (-1)) (t := 27) C d_T_scan_26 rfl rfl ?_
    exact j_iret C d_T_scan_27 rfl (by first | (have hno : ¬ (¬ n < 0 ∧ n ≤ 1000 ∧ isCnd (g_sk s) (g_sn s) = true ∧ shR s n.toNatClampNeg = true) := fun z => z.1 h1; exact ⟨by simp only [sp_scan, if_neg hno], by simp only [sp_scan, if_neg hno]; exact hR⟩) | (have hno : ¬ (¬ n < 0 ∧ n ≤ 1000 ∧ isCnd (g_sk s) (g_sn s) = true ∧ shR s n.toNatClampNeg = true) := fun z => absurd z.2.1 (Int32.not_le.mpr h8); exact ⟨by simp only [sp_scan, if_neg hno], by simp only [sp_scan, if_neg hno]; exact hR⟩) | (have hno : ¬ (¬ nI N1 < 0 ∧ nI N1 ≤ 1000 ∧ isCnd (g_sk s) (g_sn s) = true ∧ shR s (nI N1).toNatClampNeg = true) := fun z => absurd (bI_0.mp h15) (by rw [z.2.2.1]; decide); exact ⟨by simp only [sp_scan, if_neg hno], by simp only [sp_scan, if_neg hno]; exact hR⟩) | (have hno : ¬ (¬ nI N1 < 0 ∧ nI N1 ≤ 1000 ∧ isCnd (g_sk s) (g_sn s) = true ∧ shR s (nI N1).toNatClampNeg = true) := fun z => absurd (bI_0.mp h23) (by rw [nI_clamp (by omega)] at z; rw [z.2.2.2]; decide); exact ⟨by simp only [sp_scan, if_neg hno], by simp only [sp_scan, if_neg hno]; exact hR⟩)) (by omega) (by omega)
  · refine j_iload_n (i := 1) (t := 5) C d_T_scan_4 rfl rfl rfl ?_
    refine j_sipush (x := 1000) (t := 8) C d_T_scan_5 rfl rfl ?_
    refine j_icmp_gt (tgt := 26) (t := 11) C d_T_scan_8 (by decide) rfl (fun h8 => ?_) (fun h8 => ?_)
    · refine j_iconst (x := (-1)) (t := 27) C d_T_scan_26 rfl rfl ?_
      exact j_iret C d_T_scan_27 rfl (by first | (have hno : ¬ (¬ n < 0 ∧ n ≤ 1000 ∧ isCnd (g_sk s) (g_sn s) = true ∧ shR s n.toNatClampNeg = true) := fun z => z.1 h1; exact ⟨by simp only [sp_scan, if_neg hno], by simp only [sp_scan, if_neg hno]; exact hR⟩) | (have hno : ¬ (¬ n < 0 ∧ n ≤ 1000 ∧ isCnd (g_sk s) (g_sn s) = true ∧ shR s n.toNatClampNeg = true) := fun z => absurd z.2.1 (Int32.not_le.mpr h8); exact ⟨by simp only [sp_scan, if_neg hno], by simp only [sp_scan, if_neg hno]; exact hR⟩) | (have hno : ¬ (¬ nI N1 < 0 ∧ nI N1 ≤ 1000 ∧ isCnd (g_sk s) (g_sn s) = true ∧ shR s (nI N1).toNatClampNeg = true) := fun z => absurd (bI_0.mp h15) (by rw [z.2.2.1]; decide); exact ⟨by simp only [sp_scan, if_neg hno], by simp only [sp_scan, if_neg hno]; exact hR⟩) | (have hno : ¬ (¬ nI N1 < 0 ∧ nI N1 ≤ 1000 ∧ isCnd (g_sk s) (g_sn s) = true ∧ shR s (nI N1).toNatClampNeg = true) := fun z => absurd (bI_0.mp h23) (by rw [nI_clamp (by omega)] at z; rw [z.2.2.2]; decide); exact ⟨by simp only [sp_scan, if_neg hno], by simp only [sp_scan, if_neg hno]; exact hR⟩)) (by omega) (by omega)
    · obtain ⟨N1, hN0, rfl⟩ := nI_of h1
      have hN1 : N1 ≤ 1000 := (nI_leI (b := 1000) hN0 (by omega)).mp (Int32.not_lt.mp h8)
      refine j_aload_n (i := 0) (t := 12) C d_T_scan_11 rfl rfl (by first | exact jrv_r | exact jrv_n | exact jrv_f) rfl ?_
      refine j_callV (As := []) (t := 15) C (c_T_isCondition _ o _ _ _ _ _ _ _ _ _ _ _ _ (g_sn s) fs bs (g_sk s)) d_T_scan_12 jb_T_isCondition ml_T_117 jv_T_isCondition (by assumption) rfl rfl rfl (Nat.le_of_ble_eq_true rfl) (by decide) (by omega) (by omega) (⟨rfl, ho, has, wsn, (fun j hj => ⟨(hst j hj).1, _, (hst j hj).2, rfl⟩)⟩) rfl (fun r12 w12 p12 => ?_)
      obtain ⟨rfl, rfl⟩ := p12
      dsimp only [jst]
      refine j_if_eq (tgt := 26) (t := 18) C d_T_scan_15 (by decide) rfl (fun h15 => ?_) (fun h15 => ?_)
      · refine j_iconst (x := (-1)) (t := 27) C d_T_scan_26 rfl rfl ?_
        exact j_iret C d_T_scan_27 rfl (by first | (have hno : ¬ (¬ n < 0 ∧ n ≤ 1000 ∧ isCnd (g_sk s) (g_sn s) = true ∧ shR s n.toNatClampNeg = true) := fun z => z.1 h1; exact ⟨by simp only [sp_scan, if_neg hno], by simp only [sp_scan, if_neg hno]; exact hR⟩) | (have hno : ¬ (¬ n < 0 ∧ n ≤ 1000 ∧ isCnd (g_sk s) (g_sn s) = true ∧ shR s n.toNatClampNeg = true) := fun z => absurd z.2.1 (Int32.not_le.mpr h8); exact ⟨by simp only [sp_scan, if_neg hno], by simp only [sp_scan, if_neg hno]; exact hR⟩) | (have hno : ¬ (¬ nI N1 < 0 ∧ nI N1 ≤ 1000 ∧ isCnd (g_sk s) (g_sn s) = true ∧ shR s (nI N1).toNatClampNeg = true) := fun z => absurd (bI_0.mp h15) (by rw [z.2.2.1]; decide); exact ⟨by simp only [sp_scan, if_neg hno], by simp only [sp_scan, if_neg hno]; exact hR⟩) | (have hno : ¬ (¬ nI N1 < 0 ∧ nI N1 ≤ 1000 ∧ isCnd (g_sk s) (g_sn s) = true ∧ shR s (nI N1).toNatClampNeg = true) := fun z => absurd (bI_0.mp h23) (by rw [nI_clamp (by omega)] at z; rw [z.2.2.2]; decide); exact ⟨by simp only [sp_scan, if_neg hno], by simp only [sp_scan, if_neg hno]; exact hR⟩)) (by omega) (by omega)
      · refine j_aload_n (i := 0) (t := 19) C d_T_scan_18 rfl rfl (by first | exact jrv_r | exact jrv_n | exact jrv_f) rfl ?_
        refine j_iload_n (i := 1) (t := 20) C d_T_scan_19 rfl rfl rfl ?_
        refine j_callV (As := [_]) (t := 23) C (c_T_stepsHaveRows _ o _ _ _ _ _ _ _ _ _ _ _ _ (g_sn s) fs bs (fun j => if g_sk s j < 5 then some (q 1 (g_sc s j)) else none) (fun j => g_rc s (g_sc s j)) (fun j => if g_sk s j = 4 then some (q 1 (oP s j)) else none) (fun j => g_rc s (oP s j)) N1) d_T_scan_20 jb_T_stepsHaveRows ml_T_121 jv_T_stepsHaveRows (by assumption) rfl rfl rfl (Nat.le_of_ble_eq_true rfl) (by decide) (by omega) (by omega) (⟨rfl, hN1, ho, has, wsn, scan_rows hW hcol hst⟩) rfl (fun r20 w20 p20 => ?_)
        obtain ⟨rfl, rfl⟩ := p20
        dsimp only [jst]
        rw [show sHR (fun j => if g_sk s j < 5 then some (q 1 (g_sc s j)) else none) (fun j => g_rc s (g_sc s j)) (fun j => if g_sk s j = 4 then some (q 1 (oP s j)) else none) (fun j => g_rc s (oP s j)) N1 (g_sn s) = shR s N1 from scan_shR]
        refine j_if_ne (tgt := 28) (t := 26) C d_T_scan_23 (by decide) rfl (fun h23 => ?_) (fun h23 => ?_)
        · rw [bI_0, Bool.not_eq_false] at h15 h23
          refine j_aload_n (i := 0) (t := 29) C d_T_scan_28 rfl rfl (by first | exact jrv_r | exact jrv_n | exact jrv_f) rfl ?_
          refine j_iload_n (i := 1) (t := 30) C d_T_scan_29 rfl rfl rfl ?_
          refine j_putW (t := 33) C fp_T_51 d_T_scan_30 (by assumption) (by first | rfl | exact jnar_rf) (by first | rfl | exact jfit_rf) (by first | exact Nat.le_of_ble_eq_true rfl | (simp only [List.length_set]; omega)) rfl (fun w30 e30 h30 f30 => ?_)
          have h430 := f30 _ _ o4.symm haw
          have h530 := f30 _ _ o5.symm har
          have h630 := f30 _ _ o6.symm hau
          refine j_aload_n (i := 0) (t := 34) C d_T_scan_33 rfl rfl (by first | exact jrv_r | exact jrv_n | exact jrv_f) rfl ?_
          refine j_iconst (x := 0) (t := 35) C d_T_scan_34 rfl rfl ?_
          refine j_putW (t := 38) C fp_T_57 d_T_scan_35 (by assumption) (by first | rfl | exact jnar_rf) (by first | rfl | exact jfit_rf) (by first | exact Nat.le_of_ble_eq_true rfl | (simp only [List.length_set]; omega)) rfl (fun w35 e35 h35 f35 => ?_)
          have h435 := f35 _ _ o4.symm h430
          have h535 := f35 _ _ o5.symm h530
          have h635 := f35 _ _ o6.symm h630
          refine j_iconst (x := 0) (t := 39) C d_T_scan_38 rfl rfl ?_
          refine j_istore_n (i := 2) (t := 40) (lv' := [(0, _), (1, _), (2, _)]) C d_T_scan_39 rfl (by decide) (by decide) rfl rfl ?_
          exact loop N1 hN1 h15 h23 (N1 + 1) 0 0 w35 fw fr fu (by omega) (Nat.zero_le _) h35 h435 h535 (fun j hj => absurd hj (Nat.not_lt_zero _)) h635 rfl (fun k hk => absurd hk (Nat.not_lt_zero _)) ((KA.rf.put f30 (by simp)).put f35 (by simp))
        · refine j_iconst (x := (-1)) (t := 27) C d_T_scan_26 rfl rfl ?_
          exact j_iret C d_T_scan_27 rfl (by first | (have hno : ¬ (¬ n < 0 ∧ n ≤ 1000 ∧ isCnd (g_sk s) (g_sn s) = true ∧ shR s n.toNatClampNeg = true) := fun z => z.1 h1; exact ⟨by simp only [sp_scan, if_neg hno], by simp only [sp_scan, if_neg hno]; exact hR⟩) | (have hno : ¬ (¬ n < 0 ∧ n ≤ 1000 ∧ isCnd (g_sk s) (g_sn s) = true ∧ shR s n.toNatClampNeg = true) := fun z => absurd z.2.1 (Int32.not_le.mpr h8); exact ⟨by simp only [sp_scan, if_neg hno], by simp only [sp_scan, if_neg hno]; exact hR⟩) | (have hno : ¬ (¬ nI N1 < 0 ∧ nI N1 ≤ 1000 ∧ isCnd (g_sk s) (g_sn s) = true ∧ shR s (nI N1).toNatClampNeg = true) := fun z => absurd (bI_0.mp h15) (by rw [z.2.2.1]; decide); exact ⟨by simp only [sp_scan, if_neg hno], by simp only [sp_scan, if_neg hno]; exact hR⟩) | (have hno : ¬ (¬ nI N1 < 0 ∧ nI N1 ≤ 1000 ∧ isCnd (g_sk s) (g_sn s) = true ∧ shR s (nI N1).toNatClampNeg = true) := fun z => absurd (bI_0.mp h23) (by rw [nI_clamp (by omega)] at z; rw [z.2.2.2]; decide); exact ⟨by simp only [sp_scan, if_neg hno], by simp only [sp_scan, if_neg hno]; exact hR⟩)) (by omega) (by omega)
