/-! Texts off the tape, in the reference. -/
theorem relM_tn0 {s : jS} {m : jM} (hR : relM s m) : relM (s_tn s 0) (mp_tn m 0) := by
  obtain ⟨⟨r_tn, r_tp⟩, ⟨r_cc, r_ln, r_sn, r_zn⟩, r_col, r_new, r_sz, r_lit, r_st, r_zt⟩ := hR
  exact ⟨⟨rfl, fun j hj => absurd hj (Nat.not_lt_zero _)⟩, ⟨r_cc, r_ln, r_sn, r_zn⟩, r_col, r_new, r_sz, r_lit, r_st, r_zt⟩
theorem WF_tn0 {s : jS} (hW : WF s) : WF (s_tn s 0) := by
  obtain ⟨wtn, wtp, wcc, wln, wsn, wzn, wcol, wlit, wst, wzt⟩ := hW
  exact ⟨Nat.zero_le _, fun j hj => absurd hj (Nat.not_lt_zero _), wcc, wln, wsn, wzn, wcol, wlit, wst, wzt⟩
theorem txOK_iff {s : jS} {c A : Nat} (hr : g_rc s c ≤ 1000) (ht : tsum (g_rf s c) (g_rc s c) ≤ 8000) (hA : A < 2 ^ 31) : txOK s c (nI A) = true ↔ g_ty s c = 2 ∧ A ≤ 255 ∧ g_rc s c < 1000 ∧ tsum (g_rf s c) (g_rc s c) + A ≤ 8000 := by
  have e1 : (1000 : Int32) - nI (g_rc s c) = nI (1000 - g_rc s c) := pk_sub (a := 1000) hr
  have e2 : (8000 : Int32) - nI (tsum (g_rf s c) (g_rc s c)) = nI (8000 - tsum (g_rf s c) (g_rc s c)) := pk_sub (a := 8000) ht
  have e3 : nI A ≤ 255 ↔ A ≤ 255 := nI_leI (b := 255) hA (by omega)
  have e4 : (1 : Int32) ≤ nI (1000 - g_rc s c) ↔ 1 ≤ 1000 - g_rc s c := nI_leI (a := 1) (by omega) (by omega)
  have e5 : nI A ≤ nI (8000 - tsum (g_rf s c) (g_rc s c)) ↔ A ≤ 8000 - tsum (g_rf s c) (g_rc s c) := nI_leI hA (by omega)
  have e6 : (1 : Int32) ≤ 1 := by decide
  unfold txOK rmOK
  simp only [Bool.and_eq_true, decide_eq_true_eq]
  rw [e1, e2, e3, e4, e5]
  constructor
  · rintro ⟨⟨⟨h1, h2⟩, -, h3⟩, h4⟩
    exact ⟨h1, h2, by omega, by omega⟩
  · rintro ⟨h1, h2, h3, h4⟩
    exact ⟨⟨⟨h1, h2⟩, e6, by omega⟩, by omega⟩
theorem onT_iff {s : jS} {A : Nat} (hA : A < 2 ^ 31) (ht : g_tn s ≤ 1000) : onT s (nI A) = true ↔ A ≤ g_tn s := by
  have e1 : nI A ≤ nI (g_tn s) ↔ A ≤ g_tn s := nI_leI hA (by omega)
  have e2 : (0 : Int32) ≤ nI A := nI_pos' hA
  unfold onT
  simp only [Bool.and_eq_true, decide_eq_true_eq]
  rw [e1]
  exact ⟨fun h => h.2, fun h => ⟨e2, h⟩⟩
theorem onT_1 {s : jS} {n : Int32} (h : onT s n = true) : ¬ n < 0 := by
  unfold onT at h
  simp only [Bool.and_eq_true, decide_eq_true_eq] at h
  exact Int32.not_lt.mpr h.1
theorem onT_2 {s : jS} {n : Int32} (h : onT s n = true) : n ≤ nI (g_tn s) := by
  unfold onT at h
  simp only [Bool.and_eq_true, decide_eq_true_eq] at h
  exact h.2
theorem addText_0 {s : jS} {x n : Int32} (h : ¬ onT s n = true) : sp_addText s x n = (0, s) := by unfold sp_addText; rw [if_neg h]
theorem addText_n {s : jS} {x n : Int32} (h : onT s n = true) (hc : cix s x = none) : sp_addText s x n = (0, s_tn s 0) := by unfold sp_addText; rw [if_pos h]; simp only [hc]
theorem addText_f {s : jS} {x n : Int32} {c : Nat} (h : onT s n = true) (hc : cix s x = some c) (hn : ¬ txOK s c n = true) : sp_addText s x n = (0, s_tn s 0) := by unfold sp_addText; rw [if_pos h]; simp only [hc]; rw [if_neg hn]
theorem addText_t {s : jS} {x n : Int32} {c : Nat} (h : onT s n = true) (hc : cix s x = some c) (hn : txOK s c n = true) : sp_addText s x n = (1, addRows (s_tn s 0) c 1 (some (2, 0, tptx s n.toNatClampNeg))) := by unfold sp_addText; rw [if_pos h]; simp only [hc]; rw [if_pos hn]
theorem litText_0 {s : jS} {n : Int32} (h : ¬ onT s n = true) : sp_litText s n = (-1, s) := by unfold sp_litText; rw [if_neg h]
theorem litText_f {s : jS} {n : Int32} (h : onT s n = true) (hn : ¬ (g_ln s < 64 ∧ n ≤ 255)) : sp_litText s n = (-1, s_tn s 0) := by unfold sp_litText; rw [if_pos h, if_neg hn]
theorem litText_t {s : jS} {n : Int32} (h : onT s n = true) (hn : g_ln s < 64 ∧ n ≤ 255) : sp_litText s n = (nI (g_ln s), s_ln (s_lit (s_tn s 0) (va_up (g_lit s) (g_ln s) (2, 0, tptx s n.toNatClampNeg))) (g_ln s + 1)) := by unfold sp_litText; rw [if_pos h, if_pos hn]
/-- a row of a text -/
theorem relM_text1 {s : jS} {m : jM} {c A : Nat} {tx : List Nat} {bb : Nat → Int32} (hR : relM s m) (hW : WF s) (hc : c < g_cc s) (hr : g_rc s c < 1000) (hty : g_ty s c = 2) (hl : tx.length = A) (hts : tsum (g_rf s c) (g_rc s c) + A ≤ 8000) (hb1 : ∀ j, j < A → bb (8000 * c + tsum (g_rf s c) (g_rc s c) + j) = nI (tx.getD j 0)) (hb2 : ∀ b, b < 8000 * c + tsum (g_rf s c) (g_rc s c) ∨ 8000 * c + tsum (g_rf s c) (g_rc s c) + A ≤ b → bb b = mg_bytes m b) :
    relM (addRows s c 1 (some (2, 0, tx))) (mp_us (mp_cnt (mp_has (mp_bytes (mp_from (mp_size (mp_num m (vp_updL (mg_num m) (1000 * c + g_rc s c) 0)) (upd (mg_size m) (1000 * c + g_rc s c) (nI A))) (upd (mg_from m) (1000 * c + g_rc s c) (nI (8000 * c + tsum (g_rf s c) (g_rc s c))))) bb) (upd (mg_has m) (1000 * c + g_rc s c) 1)) (upd (mg_cnt m) c (nI (g_rc s c + 1)))) (upd (mg_us m) c (nI (tsum (g_rf s c) (g_rc s c) + A)))) := by
  refine relM_row (e := 8000 * c + tsum (g_rf s c) (g_rc s c) + A) hR hW hc hr ⟨rfl, rfl, rfl, rfl, rfl, rfl, rfl, rfl, rfl, rfl, rfl, rfl, rfl⟩ ⟨fun i hi => ⟨updL_ne hi, upd_ne hi, upd_ne hi⟩, hb2⟩ (by omega) rfl rfl ⟨?_, fun c' hn => upd_ne hn⟩ ⟨rfl, rfl, rfl, rfl, rfl⟩ rfl (fun z => absurd hty z) (fun x z => ?_)
  · subst hl; exact upd_self
  · cases z
    refine ⟨fun z => absurd hty z, fun _ => ⟨?_, upd_self, fun k hk => ?_⟩⟩
    · show upd (mg_size m) (1000 * c + g_rc s c) (nI A) (1000 * c + g_rc s c) = nI tx.length
      rw [upd_self, hl]
    · have hk' : k < tx.length := hk
      exact hb1 k (by omega)
theorem relM_textlit {s : jS} {m : jM} {A : Nat} {tx : List Nat} {bb : Nat → Int32} (hR : relM s m) (hW : WF s) (hln : g_ln s < 64) (hl : tx.length = A) (hA : A ≤ 255) (hb1 : ∀ j, j < A → bb (264192 + 256 * g_ln s + j) = nI (tx.getD j 0)) (hb2 : ∀ b, b < 264192 + 256 * g_ln s ∨ 264192 + 256 * g_ln s + A ≤ b → bb b = mg_bytes m b) :
    relM (s_ln (s_lit s (va_up (g_lit s) (g_ln s) (2, 0, tx))) (g_ln s + 1)) (mp_ln (mp_bytes (mp_from (mp_size (mp_num (mp_lt m (upd (mg_lt m) (g_ln s) 2)) (vp_updL (mg_num m) (17632 + g_ln s) 0)) (upd (mg_size m) (17632 + g_ln s) (nI A))) (upd (mg_from m) (17632 + g_ln s) (nI (264192 + 256 * g_ln s)))) bb) (nI (g_ln s + 1))) := by
  refine relM_lit (x := (2, 0, tx)) (a := 264192 + 256 * g_ln s) (e := 264192 + 256 * g_ln s + A) hR hW hln ⟨rfl, rfl, rfl, rfl, rfl, rfl, rfl, rfl, rfl, rfl, rfl, rfl, rfl⟩ ⟨fun i hi => ⟨updL_ne hi, upd_ne hi, upd_ne hi⟩, hb2⟩ (Or.inr ⟨Nat.le_refl _, by omega⟩) (fun _ => ⟨rfl, rfl, rfl, rfl, rfl, rfl, rfl, rfl⟩) rfl ⟨fun z => absurd rfl z, fun _ => ⟨?_, upd_self, fun k hk => ?_⟩⟩
  · show upd (mg_size m) (17632 + g_ln s) (nI A) (17632 + g_ln s) = nI tx.length
    rw [upd_self, hl]
  · have hk' : k < tx.length := hk
    exact hb1 k (by omega)
theorem tp_at {s : jS} {m m2 : jM} {A P : Nat} {bb : Nat → Int32} (htap : mg_tape m2 = mg_tape m) (h : ∀ j, j < A → bb (P + j) = mg_tape m2 j) (hA : A ≤ g_tn s) (r_tp : ∀ j, j < g_tn s → mg_tape m j = nI (g_tp s j)) : ∀ j, j < A → bb (P + j) = nI ((tptx s A).getD j 0) := fun j hj => by
  rw [h j hj, htap, r_tp j (by omega), tptx_at hj]
