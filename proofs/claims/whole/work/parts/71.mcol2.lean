/-! A change that belongs to one column of the reference, wherever its places lie. -/
def same3 (m m' : jM) (i : Nat) : Prop := mg_num m' i = mg_num m i ∧ mg_size m' i = mg_size m i ∧ mg_from m' i = mg_from m i
def cI (c i : Nat) : Prop := (1000 * c ≤ i ∧ i < 1000 * c + 1000) ∨ i = 16000 + c ∨ i = 16016 + c ∨ (16032 + 100 * c ≤ i ∧ i < 16032 + 100 * c + 100)
def cB (c b : Nat) : Prop := (8000 * c ≤ b ∧ b < 8000 * c + 8000) ∨ (128000 + 512 * c ≤ b ∧ b < 128000 + 512 * c + 512) ∨ (136192 + 8000 * c ≤ b ∧ b < 136192 + 8000 * c + 8000)
theorem valM_ok {m m' : jM} {t : Int32} {i : Nat} {x : jv} {p : Nat} (hi : same3 m m' i) (hb : ∀ k, k < x.2.2.length → mg_bytes m' (p + k) = mg_bytes m (p + k)) (h : valM m t i x p) : valM m' t i x p := by
  obtain ⟨e1, e2, e3⟩ := hi
  refine ⟨fun z => by rw [e1]; exact h.1 z, fun z => ?_⟩
  obtain ⟨h1, h2, h3⟩ := h.2 z
  exact ⟨by rw [e2]; exact h1, by rw [e3]; exact h2, fun k hk => by rw [hb k hk]; exact h3 k hk⟩
theorem rows_ok {s : jS} {m m' : jM} {c : Nat} (hok : colOK s c) (hi : ∀ r, r < 1000 → same3 m m' (1000 * c + r)) (hb : ∀ b, 8000 * c ≤ b → b < 8000 * c + 8000 → mg_bytes m' b = mg_bytes m b) (hh : ∀ r, r < 1000 → mg_has m' (1000 * c + r) = mg_has m (1000 * c + r)) (h : ∀ r, r < g_rc s c → rowM s m c r) : ∀ r, r < g_rc s c → rowM s m' c r := by
  obtain ⟨-, k2, k3, -⟩ := hok
  intro r hr
  obtain ⟨h1, h2⟩ := h r hr
  refine ⟨by rw [hh r (by omega)]; exact h1, fun x hx => ?_⟩
  have h3 := tsum_at hx hr
  exact valM_ok (hi r (by omega)) (fun k hk => hb _ (by omega) (by omega)) (h2 x hx)
theorem col_ok {s : jS} {m m' : jM} {c c' : Nat} (hne : c' ≠ c) (h16 : c' < 16 ∧ c < 16) (hvi : ∀ i, i < 17696 → ¬ cI c i → same3 m m' i) (hvb : ∀ b, ¬ cB c b → mg_bytes m' b = mg_bytes m b) (hok : colOK s c') (h8 : arrs8 m m' c') (hh : ∀ r, r < 1000 → mg_has m' (1000 * c' + r) = mg_has m (1000 * c' + r)) (h : colM s m c') : colM s m' c' := by
  obtain ⟨e1, e2, e3, e4, e5, e6, e7, e8⟩ := h8
  obtain ⟨h1, h2, h3, h4, h5, h6⟩ := h
  refine ⟨by rw [e1]; exact h1, by rw [e2]; exact h2, by rw [e3]; exact h3, rows_ok hok (fun r hr => hvi _ (by omega) (by unfold cI; omega)) (fun b hb1 hb2 => hvb b (by unfold cB; omega)) hh h4, by rw [e7]; exact h5, fun hk => ?_⟩
  obtain ⟨g1, g2, g3, g4, g5, g6, g7⟩ := h6 hk
  obtain ⟨-, -, -, -, c5⟩ := hok
  obtain ⟨-, -, -, -, c6, -, c7, c8⟩ := c5 hk
  refine ⟨by rw [e4]; exact g1, by rw [e5]; exact g2, by rw [e8]; exact g3, by rw [e6]; exact g4, fun p hp => ?_, g6, fun j hj => ?_⟩
  · obtain ⟨v1, v2⟩ := c8 p hp
    have l1 := v1.2.2.2.1
    have l2 := v2.2.2.2.1
    obtain ⟨u1, u2⟩ := g5 p hp
    exact ⟨valM_ok (hvi _ (by omega) (by unfold cI; omega)) (fun k hk => hvb _ (by unfold cB; omega)) u1, valM_ok (hvi _ (by omega) (by unfold cI; omega)) (fun k hk => hvb _ (by unfold cB; omega)) u2⟩
  · have l := esum_le (f := g_ef s c') (a := j + 1) (b := g_ec s c') (by omega)
    simp only [esum] at l
    exact valM_ok (hvi _ (by omega) (by unfold cI; omega)) (fun k hk => hvb _ (by unfold cB; omega)) (g7 j hj)
theorem relM_col2 {s t : jS} {m m' : jM} {c : Nat} (hR : relM s m) (hW : WF s) (hc : c < g_cc s) (es : sameRest s t) (ec : ∀ c', c' ≠ c → colEq s t c') (hty : g_ty t c = g_ty s c) (h13 : rest13 m m') (hvi : ∀ i, i < 17696 → ¬ cI c i → same3 m m' i) (hvb : ∀ b, ¬ cB c b → mg_bytes m' b = mg_bytes m b) (h8 : ∀ c', c' ≠ c → arrs8 m m' c') (hh : ∀ j, j < 1000 * c ∨ 1000 * c + 1000 ≤ j → mg_has m' j = mg_has m j) (hsz : ¬ g_ty s c = 2 → ∀ r, r < 1000 → mg_size m' (1000 * c + r) = 0) (hcol : colM t m' c) : relM t m' := by
  obtain ⟨⟨r_tn, r_tp⟩, ⟨r_cc, r_ln, r_sn, r_zn⟩, r_col, r_new, r_sz, r_lit, r_st, r_zt⟩ := hR
  obtain ⟨wtn, wtp, wcc, wln, wsn, wzn, wcol, wlit, wst, wzt⟩ := hW
  obtain ⟨e1, e2, e3, e4, e5, e6, e7, e8, e9, e10, e11, e12, e13⟩ := es
  obtain ⟨m1, m2, m3, m4, m5, m6, m7, m8, m9, m10, m11, m12, m13⟩ := h13
  refine ⟨⟨by rw [m2, ← e1]; exact r_tn, by rw [m1, ← e1, ← e2]; exact r_tp⟩, ⟨by rw [m3, ← e3]; exact r_cc, by rw [m4, ← e4]; exact r_ln, by rw [m5, ← e6]; exact r_sn, by rw [m6, ← e12]; exact r_zn⟩, fun c' hc' => ?_, fun c' hc' hl => ?_, fun c' hc' hl r hr => ?_, fun k hk => ?_, fun j hj => ?_, by rw [m13, ← e12, ← e13]; exact r_zt⟩
  · rw [← e3] at hc'
    by_cases q : c' = c
    · subst q; exact hcol
    · exact colM_eq (ec c' q) (col_ok q ⟨by omega, by omega⟩ hvi hvb (wcol c' hc') (h8 c' q) (fun r hr => hh _ (by omega)) (r_col c' hc'))
  · rw [← e3] at hl
    obtain ⟨n1, n2, n3⟩ := r_new c' hc' hl
    obtain ⟨-, g2, g3, -, -, -, g7, -⟩ := h8 c' (by omega)
    exact ⟨by rw [g2]; exact n1, by rw [g3]; exact n2, by rw [g7]; exact n3⟩
  · by_cases q : c' = c
    · subst q
      exact hsz (fun z => hl ⟨by rw [← e3]; exact hc, by rw [hty]; exact z⟩) r hr
    · rw [(hvi _ (by omega) (by unfold cI; omega)).2.1]
      exact r_sz c' hc' (fun z => hl ⟨by rw [← e3]; exact z.1, by rw [← (ec c' q).1]; exact z.2⟩) r hr
  · rw [← e4] at hk
    have l := (wlit k hk).2.2.2.1
    obtain ⟨u1, u2⟩ := r_lit k hk
    have h1 : litM s m' k := ⟨by rw [m7]; exact u1, valM_ok (hvi _ (by omega) (by unfold cI; omega)) (fun i hi => hvb _ (by unfold cB; omega)) u2⟩
    unfold litM at h1 ⊢
    rw [← e5]
    exact h1
  · rw [← e6] at hj
    have h1 := r_st j hj
    unfold stM at h1 ⊢
    rw [m8, m9, m10, m11, m12, ← e7, ← e8, ← e9, ← e10, ← e11]
    exact h1
/-- a copied value -/
abbrev mcopy (m : jM) (i0 i1 K P : Nat) (bb : Nat → Int32) : jM := mp_bytes (mp_from (mp_size (mp_num m (vp_updL (mg_num m) i0 (mg_num m i1))) (upd (mg_size m) i0 (nI K))) (upd (mg_from m) i0 (nI P))) bb
theorem valM_copy {m : jM} {bb : Nat → Int32} {i0 i1 K F P : Nat} {t : Int32} {x : jv} (h : valM m t i1 x F) (hl : t = 2 → K = x.2.2.length) (hb : ∀ j, j < K → bb (P + j) = mg_bytes m (F + j)) : valM (mcopy m i0 i1 K P bb) t i0 x P := by
  refine ⟨fun z => ?_, fun z => ?_⟩
  · show vp_updL (mg_num m) i0 (mg_num m i1) i0 = x.2.1
    rw [updL_self]; exact h.1 z
  · obtain ⟨h1, h2, h3⟩ := h.2 z
    have hK := hl z
    refine ⟨?_, upd_self, fun k hk => ?_⟩
    · show upd (mg_size m) i0 (nI K) i0 = _
      rw [upd_self, hK]
    · show bb (P + k) = _
      rw [hb k (by omega)]; exact h3 k hk
theorem same3_copy {m : jM} {bb : Nat → Int32} {i0 i1 K P i : Nat} (h : i ≠ i0) : same3 m (mcopy m i0 i1 K P bb) i := ⟨updL_ne h, upd_ne h, upd_ne h⟩
/-- a row's size -/
theorem row_sz {s : jS} {m : jM} {c r : Nat} {x : jv} (hR : relM s m) (hW : WF s) (hc : c < g_cc s) (hr : r < g_rc s c) (hx : g_rf s c r = some x) : ∃ K, mg_size m (1000 * c + r) = nI K ∧ (g_ty s c = 2 → K = x.2.2.length) ∧ K = x.2.2.length ∧ K ≤ 255 ∧ (0 < K → mg_from m (1000 * c + r) = nI (8000 * c + tsum (g_rf s c) r) ∧ tsum (g_rf s c) r + K ≤ 8000) := by
  obtain ⟨c1, c2, c3, c4, -⟩ := hW.2.2.2.2.2.2.1 c hc
  have h16 : c < 16 := by have := hW.2.2.1; omega
  have v := c4 r hr x hx
  have h1 := ((hR.2.2.1 c hc).2.2.2.1 r hr).2 x hx
  have h3 := tsum_at hx hr
  by_cases q : g_ty s c = 2
  · obtain ⟨g1, g2, g3⟩ := h1.2 q
    exact ⟨_, g1, fun _ => rfl, rfl, v.2.2.2.1, fun _ => ⟨g2, by omega⟩⟩
  · have e : x.2.2 = [] := v.2.2.1 q
    have h0 := hR.2.2.2.2.1 c h16 (fun z => q z.2) r (by omega)
    exact ⟨0, h0, fun z => absurd z q, by rw [e]; rfl, by omega, fun z => absurd z (Nat.lt_irrefl 0)⟩
/-! known -/
theorem known_n {s : jS} {x a b : Int32} (h : cix s x = none) : sp_known s x a b = (0, s) := by simp only [sp_known, h]
theorem known_f {s : jS} {x a b : Int32} {c : Nat} (h : cix s x = some c) (hn : ¬ ((¬ b < 0 ∧ b ≤ a ∧ a ≤ 1000000) ∧ ¬ (mnR (g_rf s c) (g_rc s c) = none ∧ b < a))) : sp_known s x a b = (0, s) := by simp only [sp_known, h]; rw [if_neg hn]
theorem known_t {s : jS} {x a b : Int32} {c : Nat} (h : cix s x = some c) (hn : (¬ b < 0 ∧ b ≤ a ∧ a ≤ 1000000) ∧ ¬ (mnR (g_rf s c) (g_rc s c) = none ∧ b < a)) : sp_known s x a b = (1, learnt s c a b) := by simp only [sp_known, h]; rw [if_pos hn]
abbrev mlearn (m : jM) (c : Nat) (hm a b : Int32) : jM := mp_wd (mp_ms (mp_rw (mp_hm (mp_kn m (upd (mg_kn m) c 1)) (upd (mg_hm m) c hm)) (upd (mg_rw m) c a)) (upd (mg_ms m) c b)) (upd (mg_wd m) c 0)
theorem le_kn {s : jS} {c : Nat} {a b : Int32} : g_kn (learnt s c a b) c = true := va_up_self _ _ _
theorem le_kr {s : jS} {c : Nat} {a b : Int32} : g_kr (learnt s c a b) c = a := va_up_self _ _ _
theorem le_km {s : jS} {c : Nat} {a b : Int32} : g_km (learnt s c a b) c = b := va_up_self _ _ _
theorem le_mo {s : jS} {c : Nat} {a b : Int32} : g_mo (learnt s c a b) c = mmR (g_rf s c) (g_rc s c) := va_up_self _ _ _
theorem le_ec {s : jS} {c : Nat} {a b : Int32} : g_ec (learnt s c a b) c = 0 := va_up_self _ _ _
theorem le_ty {s : jS} {c : Nat} {a b : Int32} : g_ty (learnt s c a b) = g_ty s := rfl
theorem le_rc {s : jS} {c : Nat} {a b : Int32} : g_rc (learnt s c a b) = g_rc s := rfl
theorem le_rf {s : jS} {c : Nat} {a b : Int32} : g_rf (learnt s c a b) = g_rf s := rfl
theorem le_same {s : jS} {c : Nat} {a b : Int32} : sameRest s (learnt s c a b) := ⟨rfl, rfl, rfl, rfl, rfl, rfl, rfl, rfl, rfl, rfl, rfl, rfl, rfl⟩
theorem le_col {s : jS} {c : Nat} {a b : Int32} : ∀ c', c' ≠ c → colEq s (learnt s c a b) c' := fun c' hn => ⟨rfl, rfl, rfl, (va_up_ne _ _ hn).symm, (va_up_ne _ _ hn).symm, (va_up_ne _ _ hn).symm, (va_up_ne _ _ hn).symm, (va_up_ne _ _ hn).symm, rfl⟩
/-- what is learnt, the two values being there -/
theorem relM_learn {s : jS} {m m' : jM} {c : Nat} {a b : Int32} (hR : relM s m) (hW : WF s) (hc : c < g_cc s) (h13 : rest13 m m') (hvi : ∀ i, ¬ (i = 16000 + c ∨ i = 16016 + c) → same3 m m' i) (hvb : ∀ j, ¬ (128000 + 512 * c ≤ j ∧ j < 128000 + 512 * c + 512) → mg_bytes m' j = mg_bytes m j) (h8 : ∀ c', c' ≠ c → arrs8 m m' c') (hh : mg_has m' = mg_has m)
    (e1 : mg_ty m' = mg_ty m) (e2 : mg_cnt m' = mg_cnt m) (e3 : mg_us m' = mg_us m) (e4 : mg_kn m' c = 1) (e5 : mg_rw m' c = a) (e6 : mg_ms m' c = b) (e7 : mg_wd m' c = 0) (e8 : mg_hm m' c = bI (mmR (g_rf s c) (g_rc s c)).isSome)
    (hv : ∀ p, mmR (g_rf s c) (g_rc s c) = some p → valM m' (g_ty s c) (16000 + c) p.1 (128000 + 512 * c) ∧ valM m' (g_ty s c) (16016 + c) p.2 (128000 + 512 * c + 256)) : relM (learnt s c a b) m' := by
  have h16 : c < 16 := by have := hW.2.2.1; omega
  have hok := hW.2.2.2.2.2.2.1 c hc
  obtain ⟨h1, h2, h3, h4, h5, h6⟩ := hR.2.2.1 c hc
  refine relM_col2 (t := learnt s c a b) (c := c) hR hW hc le_same le_col rfl h13 (fun i _ hi => hvi i (fun z => hi (by unfold cI; omega))) (fun j hj => hvb j (fun z => hj (by unfold cB; omega))) h8 (fun j _ => by rw [hh]) (fun z r hr => by rw [(hvi (1000 * c + r) (by omega)).2.1]; exact hR.2.2.2.2.1 c h16 (fun y => z y.2) r hr) ?_
  refine ⟨by rw [e1]; exact h1, by rw [e2]; exact h2, by rw [e3]; exact h3, ?_, by rw [e4, le_kn]; rfl, fun _ => ?_⟩
  · have hz := rows_ok (m' := m') hok (fun r hr => hvi _ (by omega)) (fun j j1 j2 => hvb j (by omega)) (fun r _ => by rw [hh]) h4
    unfold rowM at hz ⊢
    rw [le_rc, le_rf, le_ty]
    exact hz
  · unfold knM
    rw [le_kr, le_km, le_mo, le_ec, le_ty]
    exact ⟨e5, e6, e8, e7, hv, Nat.zero_le _, fun j hj => absurd hj (Nat.not_lt_zero _)⟩
theorem mm_none {f : Nat → Option jv} {n : Nat} (h : mnR f n = none) : mmR f n = none := by unfold mmR; rw [h]
theorem mm_some {f : Nat → Option jv} {n : Nat} {x y : jv} (h : mnR f n = some x) (h2 : mxR f n = some y) : mmR f n = some (x, y) := by unfold mmR; rw [h, h2]
theorem mx_some {f : Nat → Option jv} {n : Nat} {x : jv} (h : mnR f n = some x) : ¬ mxR f n = none := fun z => by
  have e := mm_both f n
  rw [h, z] at e
  cases e
/-- the reference's own two: nothing there; least and greatest copied -/
theorem relM_learn0 {s : jS} {m : jM} {c : Nat} {a b : Int32} (hR : relM s m) (hW : WF s) (hc : c < g_cc s) (h : mnR (g_rf s c) (g_rc s c) = none) : relM (learnt s c a b) (mlearn m c 0 a b) :=
  relM_learn hR hW hc ⟨rfl, rfl, rfl, rfl, rfl, rfl, rfl, rfl, rfl, rfl, rfl, rfl, rfl⟩ (fun _ _ => ⟨rfl, rfl, rfl⟩) (fun _ _ => rfl) (fun c' hn => ⟨rfl, rfl, rfl, upd_ne hn, upd_ne hn, upd_ne hn, upd_ne hn, upd_ne hn⟩) rfl rfl rfl rfl upd_self upd_self upd_self upd_self (upd_self.trans (by rw [mm_none h]; rfl)) (fun p hp => by rw [mm_none h] at hp; cases hp)
theorem relM_learn1 {s : jS} {m : jM} {c r1 r2 K1 K2 : Nat} {a b : Int32} {x y : jv} {b1 b2 : Nat → Int32} (hR : relM s m) (hW : WF s) (hc : c < g_cc s) (hx : mnR (g_rf s c) (g_rc s c) = some x) (hy : mxR (g_rf s c) (g_rc s c) = some y) (hr1 : r1 < g_rc s c) (hr2 : r2 < g_rc s c) (fx : g_rf s c r1 = some x) (fy : g_rf s c r2 = some y) (k1 : g_ty s c = 2 → K1 = x.2.2.length) (k2 : g_ty s c = 2 → K2 = y.2.2.length) (l1 : K1 ≤ 255) (l2 : K2 ≤ 255)
    (p1 : ∀ j, j < K1 → b1 (128000 + 512 * c + j) = mg_bytes m (8000 * c + tsum (g_rf s c) r1 + j)) (p2 : ∀ j, j < 128000 + 512 * c ∨ 128000 + 512 * c + K1 ≤ j → b1 j = mg_bytes m j)
    (q1 : ∀ j, j < K2 → b2 (128000 + 512 * c + 256 + j) = b1 (8000 * c + tsum (g_rf s c) r2 + j)) (q2 : ∀ j, j < 128000 + 512 * c + 256 ∨ 128000 + 512 * c + 256 + K2 ≤ j → b2 j = b1 j) :
    relM (learnt s c a b) (mcopy (mcopy (mlearn m c 1 a b) (16000 + c) (1000 * c + r1) K1 (128000 + 512 * c) b1) (16016 + c) (1000 * c + r2) K2 (128000 + 512 * c + 256) b2) := by
  have hok := hW.2.2.2.2.2.2.1 c hc
  have h16 : c < 16 := by have := hW.2.2.1; omega
  have vx := ((hR.2.2.1 c hc).2.2.2.1 r1 hr1).2 x fx
  have vy := ((hR.2.2.1 c hc).2.2.2.1 r2 hr2).2 y fy
  have tx := tsum_at fx hr1
  have ty := tsum_at fy hr2
  have hts := hok.2.2.1
  have hrc := hok.2.1
  obtain ⟨m1, hm1⟩ : ∃ m1 : jM, m1 = mcopy (mlearn m c 1 a b) (16000 + c) (1000 * c + r1) K1 (128000 + 512 * c) b1 := ⟨_, rfl⟩
  have w1 : valM m1 (g_ty s c) (16000 + c) x (128000 + 512 * c) := by
    rw [hm1]
    exact valM_copy (F := 8000 * c + tsum (g_rf s c) r1) (valM_ok (m := m) ⟨rfl, rfl, rfl⟩ (fun _ _ => rfl) vx) k1 p1
  have w2 : valM m1 (g_ty s c) (1000 * c + r2) y (8000 * c + tsum (g_rf s c) r2) := by
    rw [hm1]
    exact valM_ok (m := m) (same3_copy (m := mlearn m c 1 a b) (by omega)) (fun k hk => p2 _ (by omega)) vy
  have e1 : mg_bytes m1 = b1 := by rw [hm1]
  have e2 : ∀ i, ¬ i = 16000 + c → same3 m m1 i := fun i hi => by
    rw [hm1]
    exact same3_copy (m := mlearn m c 1 a b) hi
  have e3 : rest13 m m1 ∧ (∀ c', c' ≠ c → arrs8 m m1 c') ∧ mg_has m1 = mg_has m ∧ mg_ty m1 = mg_ty m ∧ mg_cnt m1 = mg_cnt m ∧ mg_us m1 = mg_us m ∧ mg_kn m1 c = 1 ∧ mg_rw m1 c = a ∧ mg_ms m1 c = b ∧ mg_wd m1 c = 0 ∧ mg_hm m1 c = 1 := by
    rw [hm1]
    exact ⟨⟨rfl, rfl, rfl, rfl, rfl, rfl, rfl, rfl, rfl, rfl, rfl, rfl, rfl⟩, fun c' hn => ⟨rfl, rfl, rfl, upd_ne hn, upd_ne hn, upd_ne hn, upd_ne hn, upd_ne hn⟩, rfl, rfl, rfl, rfl, upd_self, upd_self, upd_self, upd_self, upd_self⟩
  rw [← hm1]
  obtain ⟨g1, g2, g3, g4, g5, g6, g7, g8, g9, g10, g11⟩ := e3
  refine relM_learn hR hW hc g1 (fun i hi => ?_) (fun j hj => ?_) g2 g3 g4 g5 g6 g7 g8 g9 g10 (g11.trans (by rw [mm_some hx hy]; rfl)) (fun p hp => ?_)
  · obtain ⟨f1, f2, f3⟩ := e2 i (by omega)
    obtain ⟨f4, f5, f6⟩ := same3_copy (m := m1) (bb := b2) (i0 := 16016 + c) (i1 := 1000 * c + r2) (K := K2) (P := 128000 + 512 * c + 256) (i := i) (by omega)
    exact ⟨f4.trans f1, f5.trans f2, f6.trans f3⟩
  · show b2 j = _
    rw [q2 j (by omega), p2 j (by omega)]
  · rw [mm_some hx hy] at hp
    cases hp
    refine ⟨?_, valM_copy w2 k2 (by rw [e1]; exact q1)⟩
    refine valM_ok (m := m1) (same3_copy (by omega)) (fun k hk => ?_) w1
    rw [e1]
    have lx : x.2.2.length ≤ 255 := (hok.2.2.2.1 r1 hr1 x fx).2.2.2.1
    have hk' : k < x.2.2.length := hk
    exact q2 _ (by omega)
/-- of a column's rows alone -/
def rowsM (s : jS) (m : jM) (c : Nat) : Prop := mg_ty m c = g_ty s c ∧ mg_cnt m c = nI (g_rc s c) ∧ ∀ r, r < g_rc s c → rowM s m c r
theorem row_okR {s : jS} {m : jM} {c r : Nat} {x : jv} (hR : rowsM s m c) (hW : WF s) (hc : c < g_cc s) (hr : r < g_rc s c) (hx : g_rf s c r = some x) : cmpOK m (g_ty s c) (1000 * c + r) x := by
  obtain ⟨-, -, wcc, -, -, -, wcol, -⟩ := hW
  obtain ⟨-, c2, c3, c4, -⟩ := wcol c hc
  have h1 := hR.2.2 r hr
  have h2 := tsum_at hx hr
  exact ⟨_, h1.2 x hx, c4 r hr x hx, by omega, by omega⟩
theorem rowsM_keep {s : jS} {m m' : jM} {c : Nat} (hR : relM s m) (hW : WF s) (hc : c < g_cc s) (e1 : mg_ty m' = mg_ty m) (e2 : mg_cnt m' = mg_cnt m) (hi : ∀ i, i < 16000 → same3 m m' i) (hb : ∀ b, b < 128000 → mg_bytes m' b = mg_bytes m b) (hh : mg_has m' = mg_has m) : rowsM s m' c := by
  have hok := hW.2.2.2.2.2.2.1 c hc
  have h16 : c < 16 := by have := hW.2.2.1; omega
  obtain ⟨h1, h2, h3, h4, h5, h6⟩ := hR.2.2.1 c hc
  exact ⟨by rw [e1]; exact h1, by rw [e2]; exact h2, rows_ok hok (fun r hr => hi _ (by omega)) (fun b b1 b2 => hb b (by omega)) (fun r _ => by rw [hh]) h4⟩
