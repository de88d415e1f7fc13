/-! What a change of the reference's memory keeps. -/
def rest13 (m m' : jM) : Prop := mg_tape m' = mg_tape m ∧ mg_tn m' = mg_tn m ∧ mg_cc m' = mg_cc m ∧ mg_ln m' = mg_ln m ∧ mg_sn m' = mg_sn m ∧ mg_zn m' = mg_zn m ∧ mg_lt m' = mg_lt m ∧ mg_kd m' = mg_kd m ∧ mg_fi m' = mg_fi m ∧ mg_op m' = mg_op m ∧ mg_ot m' = mg_ot m ∧ mg_mn m' = mg_mn m ∧ mg_tr m' = mg_tr m
/-- values but that at i0, and bytes but those from a to e, are as they were -/
def vk (m m' : jM) (i0 a e : Nat) : Prop := (∀ i, i ≠ i0 → mg_num m' i = mg_num m i ∧ mg_size m' i = mg_size m i ∧ mg_from m' i = mg_from m i) ∧ ∀ b, b < a ∨ e ≤ b → mg_bytes m' b = mg_bytes m b
theorem vk.rf {m m' : jM} {i0 a e : Nat} (h1 : mg_num m' = mg_num m) (h2 : mg_size m' = mg_size m) (h3 : mg_from m' = mg_from m) (h4 : mg_bytes m' = mg_bytes m) : vk m m' i0 a e := ⟨fun _ _ => by rw [h1, h2, h3]; exact ⟨rfl, rfl, rfl⟩, fun _ _ => by rw [h4]⟩
theorem valM_vk {m m' : jM} {i0 a e : Nat} {t : Int32} {i : Nat} {x : jv} {p : Nat} (hv : vk m m' i0 a e) (hi : i ≠ i0) (hb : p + x.2.2.length ≤ a ∨ e ≤ p) (h : valM m t i x p) : valM m' t i x p := by
  obtain ⟨e1, e2, e3⟩ := hv.1 i hi
  refine ⟨fun z => by rw [e1]; exact h.1 z, fun z => ?_⟩
  obtain ⟨h1, h2, h3⟩ := h.2 z
  refine ⟨by rw [e2]; exact h1, by rw [e3]; exact h2, fun k hk => ?_⟩
  rw [hv.2 (p + k) (by omega)]
  exact h3 k hk
theorem rows_vk {s : jS} {m m' : jM} {i0 a e c : Nat} (hv : vk m m' i0 a e) (hts : tsum (g_rf s c) (g_rc s c) ≤ 8000) (hi : ∀ r, r < g_rc s c → 1000 * c + r ≠ i0) (hb : 8000 * c + tsum (g_rf s c) (g_rc s c) ≤ a ∨ e ≤ 8000 * c) (hh : ∀ r, r < g_rc s c → mg_has m' (1000 * c + r) = mg_has m (1000 * c + r)) (h : ∀ r, r < g_rc s c → rowM s m c r) : ∀ r, r < g_rc s c → rowM s m' c r := by
  intro r hr
  obtain ⟨h1, h2⟩ := h r hr
  refine ⟨by rw [hh r hr]; exact h1, fun x hx => ?_⟩
  have h3 := tsum_at hx hr
  exact valM_vk hv (hi r hr) (by omega) (h2 x hx)
theorem kn_vk {s : jS} {m m' : jM} {i0 a e c : Nat} (hv : vk m m' i0 a e) (hok : colOK s c) (hk : g_kn s c = true) (e1 : mg_rw m' c = mg_rw m c) (e2 : mg_ms m' c = mg_ms m c) (e3 : mg_hm m' c = mg_hm m c) (e4 : mg_wd m' c = mg_wd m c)
    (hi : i0 ≠ 16000 + c ∧ i0 ≠ 16016 + c ∧ ∀ j, j < 100 → i0 ≠ 16032 + 100 * c + j) (hb : 128000 + 512 * c + 512 ≤ a ∨ e ≤ 128000 + 512 * c) (hb2 : 136192 + 8000 * c + 8000 ≤ a ∨ e ≤ 136192 + 8000 * c) (h : knM s m c) : knM s m' c := by
  obtain ⟨h1, h2, h3, h4, h5, h6, h7⟩ := h
  obtain ⟨-, -, -, -, c5⟩ := hok
  obtain ⟨-, -, -, -, c6, -, c7, c8⟩ := c5 hk
  refine ⟨by rw [e1]; exact h1, by rw [e2]; exact h2, by rw [e3]; exact h3, by rw [e4]; exact h4, fun p hp => ?_, h6, fun j hj => ?_⟩
  · obtain ⟨v1, v2⟩ := c8 p hp
    have l1 := v1.2.2.2.1
    have l2 := v2.2.2.2.1
    obtain ⟨g1, g2⟩ := h5 p hp
    exact ⟨valM_vk hv (Ne.symm hi.1) (by omega) g1, valM_vk hv (Ne.symm hi.2.1) (by omega) g2⟩
  · have l := esum_le (f := g_ef s c) (a := j + 1) (b := g_ec s c) (by omega)
    simp only [esum] at l
    exact valM_vk hv (Ne.symm (hi.2.2 j (by omega))) (by omega) (h7 j hj)
theorem lit_vk {s : jS} {m m' : jM} {i0 a e k : Nat} (hv : vk m m' i0 a e) (hok : vok (g_lit s k).1 (g_lit s k)) (e1 : mg_lt m' k = mg_lt m k) (hi : i0 ≠ 17632 + k) (hb : 264192 + 256 * k + 256 ≤ a ∨ e ≤ 264192 + 256 * k) (h : litM s m k) : litM s m' k := by
  have l := hok.2.2.2.1
  exact ⟨by rw [e1]; exact h.1, valM_vk hv (Ne.symm hi) (by omega) h.2⟩
theorem colM_eq {s t : jS} {m : jM} {c : Nat} (e : colEq s t c) (h : colM s m c) : colM t m c := by
  obtain ⟨e1, e2, e3, e4, e5, e6, e7, e8, e9⟩ := e
  unfold colM knM rowM at h ⊢
  rw [e1, e2, e3, e4, e5, e6, e7, e8, e9] at h
  exact h
def arrs8 (m m' : jM) (c : Nat) : Prop := mg_ty m' c = mg_ty m c ∧ mg_cnt m' c = mg_cnt m c ∧ mg_us m' c = mg_us m c ∧ mg_rw m' c = mg_rw m c ∧ mg_ms m' c = mg_ms m c ∧ mg_wd m' c = mg_wd m c ∧ mg_kn m' c = mg_kn m c ∧ mg_hm m' c = mg_hm m c
theorem col_vk {s : jS} {m m' : jM} {i0 a e c : Nat} (hv : vk m m' i0 a e) (hok : colOK s c) (h8 : arrs8 m m' c) (hh : ∀ r, r < 1000 → mg_has m' (1000 * c + r) = mg_has m (1000 * c + r))
    (hi : (∀ r, r < 1000 → 1000 * c + r ≠ i0) ∧ i0 ≠ 16000 + c ∧ i0 ≠ 16016 + c ∧ ∀ j, j < 100 → i0 ≠ 16032 + 100 * c + j) (hb0 : 8000 * c + 8000 ≤ a ∨ e ≤ 8000 * c) (hb : 128000 + 512 * c + 512 ≤ a ∨ e ≤ 128000 + 512 * c) (hb2 : 136192 + 8000 * c + 8000 ≤ a ∨ e ≤ 136192 + 8000 * c) (h : colM s m c) : colM s m' c := by
  obtain ⟨e1, e2, e3, e4, e5, e6, e7, e8⟩ := h8
  obtain ⟨h1, h2, h3, h4, h5, h6⟩ := h
  obtain ⟨k1, k2, k3, -⟩ := id hok
  refine ⟨by rw [e1]; exact h1, by rw [e2]; exact h2, by rw [e3]; exact h3, rows_vk hv k3 (fun r hr => hi.1 r (by omega)) (by omega) (fun r hr => hh r (by omega)) h4, by rw [e7]; exact h5, fun hk => kn_vk hv hok hk e4 e5 e8 e6 hi.2 hb hb2 (h6 hk)⟩
/-- where a change that belongs to column c may lie -/
def inC (c i0 a e : Nat) : Prop := ((1000 * c ≤ i0 ∧ i0 < 1000 * c + 1000) ∨ i0 = 16000 + c ∨ i0 = 16016 + c ∨ (16032 + 100 * c ≤ i0 ∧ i0 < 16032 + 100 * c + 100) ∨ 17696 ≤ i0) ∧ (e = 0 ∨ (8000 * c ≤ a ∧ e ≤ 8000 * c + 8000) ∨ (128000 + 512 * c ≤ a ∧ e ≤ 128000 + 512 * c + 512) ∨ (136192 + 8000 * c ≤ a ∧ e ≤ 136192 + 8000 * c + 8000))
theorem relM_col {s t : jS} {m m' : jM} {c i0 a e : Nat} (hR : relM s m) (hW : WF s) (hc : c < g_cc s) (es : sameRest s t) (ec : ∀ c', c' ≠ c → colEq s t c') (hty : g_ty t c = g_ty s c) (h13 : rest13 m m') (hv : vk m m' i0 a e) (hin : inC c i0 a e) (h8 : ∀ c', c' ≠ c → arrs8 m m' c') (hh : ∀ j, j < 1000 * c ∨ 1000 * c + 1000 ≤ j → mg_has m' j = mg_has m j) (hsz : ¬ g_ty s c = 2 → ∀ r, r < 1000 → mg_size m' (1000 * c + r) = 0) (hcol : colM t m' c) : relM t m' := by
  obtain ⟨⟨r_tn, r_tp⟩, ⟨r_cc, r_ln, r_sn, r_zn⟩, r_col, r_new, r_sz, r_lit, r_st, r_zt⟩ := hR
  obtain ⟨wtn, wtp, wcc, wln, wsn, wzn, wcol, wlit, wst, wzt⟩ := hW
  obtain ⟨e1, e2, e3, e4, e5, e6, e7, e8, e9, e10, e11, e12, e13⟩ := es
  obtain ⟨m1, m2, m3, m4, m5, m6, m7, m8, m9, m10, m11, m12, m13⟩ := h13
  obtain ⟨hin1, hin2⟩ := hin
  refine ⟨⟨by rw [m2, ← e1]; exact r_tn, by rw [m1, ← e1, ← e2]; exact r_tp⟩, ⟨by rw [m3, ← e3]; exact r_cc, by rw [m4, ← e4]; exact r_ln, by rw [m5, ← e6]; exact r_sn, by rw [m6, ← e12]; exact r_zn⟩, fun c' hc' => ?_, fun c' hc' hl => ?_, fun c' hc' hl r hr => ?_, fun k hk => ?_, fun j hj => ?_, by rw [m13, ← e12, ← e13]; exact r_zt⟩
  · rw [← e3] at hc'
    by_cases q : c' = c
    · subst q; exact hcol
    · refine colM_eq (ec c' q) (col_vk hv (wcol c' hc') (h8 c' q) (fun r hr => hh _ (by omega)) ⟨fun r hr => by omega, by omega, by omega, fun j hj => by omega⟩ (by omega) (by omega) (by omega) (r_col c' hc'))
  · rw [← e3] at hl
    obtain ⟨n1, n2, n3⟩ := r_new c' hc' hl
    obtain ⟨-, g2, g3, -, -, -, g7, -⟩ := h8 c' (by omega)
    exact ⟨by rw [g2]; exact n1, by rw [g3]; exact n2, by rw [g7]; exact n3⟩
  · by_cases q : c' = c
    · subst q
      exact hsz (fun z => hl ⟨by rw [← e3]; exact hc, by rw [hty]; exact z⟩) r hr
    · rw [(hv.1 _ (by omega)).2.1]
      exact r_sz c' hc' (fun z => hl ⟨by rw [← e3]; exact z.1, by rw [← (ec c' q).1]; exact z.2⟩) r hr
  · rw [← e4] at hk
    have h1 := lit_vk (m' := m') hv (wlit k hk) (by rw [m7]) (by omega) (by omega) (r_lit k hk)
    unfold litM at h1 ⊢
    rw [← e5]
    exact h1
  · rw [← e6] at hj
    have h1 := r_st j hj
    unfold stM at h1 ⊢
    rw [m8, m9, m10, m11, m12, ← e7, ← e8, ← e9, ← e10, ← e11]
    exact h1
/-- a change of the tape, the scan or the pile alone -/
def restC (m m' : jM) : Prop := mg_num m' = mg_num m ∧ mg_from m' = mg_from m ∧ mg_size m' = mg_size m ∧ mg_bytes m' = mg_bytes m ∧ mg_ty m' = mg_ty m ∧ mg_cnt m' = mg_cnt m ∧ mg_us m' = mg_us m ∧ mg_rw m' = mg_rw m ∧ mg_ms m' = mg_ms m ∧ mg_wd m' = mg_wd m ∧ mg_kn m' = mg_kn m ∧ mg_hm m' = mg_hm m ∧ mg_has m' = mg_has m
theorem upd_i {f : Nat → Int32} {k : Nat} {x : Int32} : ∀ j, j ≠ k → upd f k x j = f j := fun _ h => upd_ne h
/-- clear -/
theorem relM_clear {s : jS} {m : jM} {c : Nat} (hR : relM s m) (hW : WF s) (hc : c < g_cc s) : relM (s_rc s (va_up (g_rc s) c 0)) (mp_us (mp_cnt m (upd (mg_cnt m) c 0)) (upd (mg_us m) c 0)) := by
  have hcol := hR.2.2.1 c hc
  obtain ⟨h1, h2, h3, h4, h5, h6⟩ := hcol
  refine relM_col (t := s_rc s (va_up (g_rc s) c 0)) (i0 := 17696) (a := 0) (e := 0) hR hW hc ⟨rfl, rfl, rfl, rfl, rfl, rfl, rfl, rfl, rfl, rfl, rfl, rfl, rfl⟩ (fun c' hn => ⟨rfl, (va_up_ne _ _ hn).symm, rfl, rfl, rfl, rfl, rfl, rfl, rfl⟩) rfl ⟨rfl, rfl, rfl, rfl, rfl, rfl, rfl, rfl, rfl, rfl, rfl, rfl, rfl⟩ (vk.rf rfl rfl rfl rfl) ⟨Or.inr (Or.inr (Or.inr (Or.inr (Nat.le_refl _)))), Or.inl rfl⟩ (fun c' hn => ⟨rfl, upd_i c' hn, upd_i c' hn, rfl, rfl, rfl, rfl, rfl⟩) (fun _ _ => rfl) (fun z => hR.2.2.2.2.1 c (by have := hW.2.2.1; omega) (fun q => z q.2)) ?_
  have e0 : g_rc (s_rc s (va_up (g_rc s) c 0)) c = 0 := va_up_self _ _ _
  refine ⟨h1, ?_, ?_, ?_, h5, h6⟩
  · rw [e0]; exact upd_self
  · rw [e0]; exact upd_self
  · rw [e0]; exact fun r hr => absurd hr (Nat.not_lt_zero _)
/-- unknown -/
theorem relM_unknown {s : jS} {m : jM} {c : Nat} (hR : relM s m) (hW : WF s) (hc : c < g_cc s) : relM (s_kn s (va_up (g_kn s) c false)) (mp_wd (mp_kn m (upd (mg_kn m) c 0)) (upd (mg_wd m) c 0)) := by
  have hcol := hR.2.2.1 c hc
  obtain ⟨h1, h2, h3, h4, h5, h6⟩ := hcol
  refine relM_col (t := s_kn s (va_up (g_kn s) c false)) (i0 := 17696) (a := 0) (e := 0) hR hW hc ⟨rfl, rfl, rfl, rfl, rfl, rfl, rfl, rfl, rfl, rfl, rfl, rfl, rfl⟩ (fun c' hn => ⟨rfl, rfl, rfl, (va_up_ne _ _ hn).symm, rfl, rfl, rfl, rfl, rfl⟩) rfl ⟨rfl, rfl, rfl, rfl, rfl, rfl, rfl, rfl, rfl, rfl, rfl, rfl, rfl⟩ (vk.rf rfl rfl rfl rfl) ⟨Or.inr (Or.inr (Or.inr (Or.inr (Nat.le_refl _)))), Or.inl rfl⟩ (fun c' hn => ⟨rfl, rfl, rfl, rfl, rfl, upd_i c' hn, upd_i c' hn, rfl⟩) (fun _ _ => rfl) (fun z => hR.2.2.2.2.1 c (by have := hW.2.2.1; omega) (fun q => z q.2)) ?_
  have e0 : g_kn (s_kn s (va_up (g_kn s) c false)) c = false := va_up_self _ _ _
  refine ⟨h1, h2, h3, h4, ?_, ?_⟩
  · rw [e0]; exact upd_self
  · rw [e0]; exact fun z => by cases z
/-- forget -/
theorem relM_forget {s : jS} {m : jM} (hR : relM s m) : relM (sp_forget s) (mp_ln (mp_sn m 0) 0) := by
  obtain ⟨⟨r_tn, r_tp⟩, ⟨r_cc, r_ln, r_sn, r_zn⟩, r_col, r_new, r_sz, r_lit, r_st, r_zt⟩ := hR
  exact ⟨⟨r_tn, r_tp⟩, ⟨r_cc, rfl, rfl, r_zn⟩, r_col, r_new, r_sz, fun k hk => absurd hk (Nat.not_lt_zero _), fun j hj => absurd hj (Nat.not_lt_zero _), r_zt⟩
/-- column -/
theorem relM_column {s : jS} {m : jM} {ty : Int32} (hR : relM s m) (hW : WF s) (hc : g_cc s < 16) : relM (newcol s ty) (mp_cc (mp_ty m (upd (mg_ty m) (g_cc s) ty)) (nI (g_cc s + 1))) := by
  obtain ⟨⟨r_tn, r_tp⟩, ⟨r_cc, r_ln, r_sn, r_zn⟩, r_col, r_new, r_sz, r_lit, r_st, r_zt⟩ := hR
  obtain ⟨n1, n2, n3⟩ := r_new (g_cc s) hc (Nat.le_refl _)
  refine ⟨⟨r_tn, r_tp⟩, ⟨rfl, r_ln, r_sn, r_zn⟩, fun c hc' => ?_, fun c h16 hl => ?_, fun c h16 hl => ?_, r_lit, r_st, r_zt⟩
  · by_cases q : c = g_cc s
    · subst q
      have e1 : g_ty (newcol s ty) (g_cc s) = ty := va_up_self _ _ _
      have e2 : g_rc (newcol s ty) (g_cc s) = 0 := va_up_self _ _ _
      have e3 : g_kn (newcol s ty) (g_cc s) = false := va_up_self _ _ _
      refine ⟨by rw [e1]; exact upd_self, by rw [e2]; exact n1, by rw [e2]; exact n2, by rw [e2]; exact fun r hr => absurd hr (Nat.not_lt_zero _), by rw [e3]; exact n3, by rw [e3]; exact fun z => by cases z⟩
    · have hlt : c < g_cc s := by have : c < g_cc s + 1 := hc'
                                  omega
      have h := r_col c hlt
      have h2 : colM s (mp_cc (mp_ty m (upd (mg_ty m) (g_cc s) ty)) (nI (g_cc s + 1))) c := by
        obtain ⟨h1, h2, h3, h4, h5, h6⟩ := h
        exact ⟨(upd_i c q).trans h1, h2, h3, h4, h5, h6⟩
      exact colM_eq ⟨(va_up_ne _ _ q).symm, (va_up_ne _ _ q).symm, rfl, (va_up_ne _ _ q).symm, rfl, rfl, rfl, rfl, rfl⟩ h2
  · have hl' : g_cc s + 1 ≤ c := hl
    exact r_new c h16 (by omega)
  · intro r hr
    refine r_sz c h16 (fun z => hl ⟨Nat.lt_succ_of_lt z.1, ?_⟩) r hr
    show va_up (g_ty s) (g_cc s) ty c = 2
    rw [va_up_ne _ _ (by omega)]
    exact z.2
/-- a new literal -/
theorem relM_lit {s : jS} {m m' : jM} {x : jv} {a e : Nat} (hR : relM s m) (hW : WF s) (hl : g_ln s < 64) (h13 : mg_tape m' = mg_tape m ∧ mg_tn m' = mg_tn m ∧ mg_cc m' = mg_cc m ∧ mg_ln m' = nI (g_ln s + 1) ∧ mg_sn m' = mg_sn m ∧ mg_zn m' = mg_zn m ∧ mg_lt m' = upd (mg_lt m) (g_ln s) x.1 ∧ mg_kd m' = mg_kd m ∧ mg_fi m' = mg_fi m ∧ mg_op m' = mg_op m ∧ mg_ot m' = mg_ot m ∧ mg_mn m' = mg_mn m ∧ mg_tr m' = mg_tr m) (hv : vk m m' (17632 + g_ln s) a e) (hb : e = 0 ∨ (264192 + 256 * g_ln s ≤ a ∧ e ≤ 264192 + 256 * g_ln s + 256)) (h8 : ∀ c, arrs8 m m' c) (hh : mg_has m' = mg_has m) (hx : valM m' x.1 (17632 + g_ln s) x (264192 + 256 * g_ln s)) : relM (s_ln (s_lit s (va_up (g_lit s) (g_ln s) x)) (g_ln s + 1)) m' := by
  obtain ⟨⟨r_tn, r_tp⟩, ⟨r_cc, r_ln, r_sn, r_zn⟩, r_col, r_new, r_sz, r_lit, r_st, r_zt⟩ := hR
  obtain ⟨wtn, wtp, wcc, wln, wsn, wzn, wcol, wlit, wst, wzt⟩ := hW
  obtain ⟨m1, m2, m3, m4, m5, m6, m7, m8, m9, m10, m11, m12, m13⟩ := h13
  refine ⟨⟨by rw [m2]; exact r_tn, by rw [m1]; exact r_tp⟩, ⟨by rw [m3]; exact r_cc, m4, by rw [m5]; exact r_sn, by rw [m6]; exact r_zn⟩, fun c hc => ?_, fun c hc hl' => ?_, fun c hc hl' r hr => ?_, fun k hk => ?_, fun j hj => ?_, by rw [m13]; exact r_zt⟩
  · have hc' : c < g_cc s := hc
    exact colM_eq ⟨rfl, rfl, rfl, rfl, rfl, rfl, rfl, rfl, rfl⟩ (col_vk hv (wcol c hc) (h8 c) (fun r hr => by rw [hh]) ⟨fun r hr => by omega, by omega, by omega, fun j hj => by omega⟩ (by omega) (by omega) (by omega) (r_col c hc))
  · obtain ⟨n1, n2, n3⟩ := r_new c hc hl'
    obtain ⟨-, g2, g3, -, -, -, g7, -⟩ := h8 c
    exact ⟨by rw [g2]; exact n1, by rw [g3]; exact n2, by rw [g7]; exact n3⟩
  · rw [(hv.1 _ (by omega)).2.1]
    exact r_sz c hc hl' r hr
  · by_cases q : k = g_ln s
    · subst q
      have e1 : g_lit (s_ln (s_lit s (va_up (g_lit s) (g_ln s) x)) (g_ln s + 1)) (g_ln s) = x := va_up_self _ _ _
      unfold litM
      rw [e1, m7]
      exact ⟨upd_self, hx⟩
    · have hk' : k < g_ln s := by have : k < g_ln s + 1 := hk
                                  omega
      have e1 : g_lit (s_ln (s_lit s (va_up (g_lit s) (g_ln s) x)) (g_ln s + 1)) k = g_lit s k := va_up_ne _ _ q
      have h1 := lit_vk (m' := m') hv (wlit k hk') (by rw [m7]; exact upd_ne q) (by omega) (by omega) (r_lit k hk')
      unfold litM at h1 ⊢
      rw [e1]
      exact h1
  · have h1 := r_st j hj
    unfold stM at h1 ⊢
    rw [m8, m9, m10, m11, m12]
    exact h1
/-- a new step -/
theorem relM_step {s : jS} {m : jM} {kd op y n x : Int32} {c : Nat} (hR : relM s m) (hx : kd < 5 → x = nI c) : relM (addStep s kd c op y n) (mp_sn (mp_mn (mp_ot (mp_op (mp_fi (mp_kd m (upd (mg_kd m) (g_sn s) kd)) (upd (mg_fi m) (g_sn s) x)) (upd (mg_op m) (g_sn s) op)) (upd (mg_ot m) (g_sn s) y)) (upd (mg_mn m) (g_sn s) n)) (nI (g_sn s + 1))) := by
  obtain ⟨⟨r_tn, r_tp⟩, ⟨r_cc, r_ln, r_sn, r_zn⟩, r_col, r_new, r_sz, r_lit, r_st, r_zt⟩ := hR
  refine ⟨⟨r_tn, r_tp⟩, ⟨r_cc, r_ln, rfl, r_zn⟩, r_col, r_new, r_sz, r_lit, fun j hj => ?_, r_zt⟩
  by_cases q : j = g_sn s
  · subst q
    have e1 : g_sk (addStep s kd c op y n) (g_sn s) = kd := va_up_self _ _ _
    have e2 : g_sc (addStep s kd c op y n) (g_sn s) = c := va_up_self _ _ _
    have e3 : g_so (addStep s kd c op y n) (g_sn s) = op := va_up_self _ _ _
    have e4 : g_sp (addStep s kd c op y n) (g_sn s) = y := va_up_self _ _ _
    have e5 : g_sm (addStep s kd c op y n) (g_sn s) = n := va_up_self _ _ _
    refine ⟨by rw [e1]; exact upd_self, by rw [e1, e2]; exact fun z => upd_self.trans (hx z), by rw [e3]; exact upd_self, by rw [e4]; exact upd_self, by rw [e5]; exact upd_self⟩
  · have hj' : j < g_sn s := by have : j < g_sn s + 1 := hj
                                omega
    obtain ⟨h1, h2, h3, h4, h5⟩ := r_st j hj'
    have e1 : g_sk (addStep s kd c op y n) j = g_sk s j := va_up_ne _ _ q
    have e2 : g_sc (addStep s kd c op y n) j = g_sc s j := va_up_ne _ _ q
    have e3 : g_so (addStep s kd c op y n) j = g_so s j := va_up_ne _ _ q
    have e4 : g_sp (addStep s kd c op y n) j = g_sp s j := va_up_ne _ _ q
    have e5 : g_sm (addStep s kd c op y n) j = g_sm s j := va_up_ne _ _ q
    refine ⟨by rw [e1]; exact (upd_i j q).trans h1, by rw [e1, e2]; exact fun z => (upd_i j q).trans (h2 z), by rw [e3]; exact (upd_i j q).trans h3, by rw [e4]; exact (upd_i j q).trans h4, by rw [e5]; exact (upd_i j q).trans h5⟩
