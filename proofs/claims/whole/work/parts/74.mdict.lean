/-! The dictionary: the class's way and the reference's way give one answer. -/
def nfR (f : Nat → Option jv) : Nat → Nat
  | 0 => 0
  | n + 1 => nfR f n + (if fstR f n = true then 1 else 0)
def inR (lo hi x : jv) : Prop := ¬ vc x lo < 0 ∧ ¬ 0 < vc x hi
def dW (f : Nat → Option jv) (lo hi : jv) (e k : Nat) (g : Nat → jv) : Prop := dct f lo hi e = some (k, g) ∧ k = nfR f e ∧ k ≤ 100 ∧ (∀ x, amg x g 0 k = eqB f x e) ∧ (∀ r x, r < e → f r = some x → fstR f r = true → g (nfR f r) = x) ∧ ∀ j, j < k → inR lo hi (g j)
def dQ (f : Nat → Option jv) (lo hi : jv) (e : Nat) : Prop := (∃ k g, dW f lo hi e k g) ∨ (dct f lo hi e = none ∧ 100 < nfR f e)
theorem nf_1 {f : Nat → Option jv} {e : Nat} (h : fstR f e = true) : nfR f (e + 1) = nfR f e + 1 := by simp [nfR, h]
theorem nf_0 {f : Nat → Option jv} {e : Nat} (h : fstR f e = false) : nfR f (e + 1) = nfR f e := by simp [nfR, h]
theorem nf_le {f : Nat → Option jv} {a : Nat} : ∀ {b : Nat}, a ≤ b → nfR f a ≤ nfR f b
  | 0, h => by have e : a = 0 := by omega
               subst e; exact Nat.le_refl _
  | b + 1, h => by
    by_cases q : a = b + 1
    · subst q; exact Nat.le_refl _
    · have := nf_le (f := f) (a := a) (b := b) (by omega)
      simp only [nfR]
      omega
theorem nf_n {f : Nat → Option jv} : ∀ e, nfR f e ≤ e
  | 0 => Nat.le_refl _
  | e + 1 => by
    have := nf_n (f := f) e
    simp only [nfR]
    split <;> omega
theorem amg_congr {x y : jv} {g : Nat → jv} {p : Nat} (h : vc x y = 0) : ∀ m, amg x g p m = amg y g p m
  | 0 => rfl
  | m + 1 => by simp only [amg]; rw [amg_congr h m, vc_congr h]
theorem amg_on {x : jv} {g g' : Nat → jv} : ∀ {m : Nat}, (∀ j, j < m → g j = g' j) → amg x g 0 m = amg x g' 0 m
  | 0, _ => rfl
  | m + 1, h => by
    simp only [amg]
    rw [amg_on (m := m) (fun j hj => h j (by omega)), h (0 + m) (by omega)]
theorem amg_up {x y : jv} {g : Nat → jv} {k : Nat} : amg x (va_up g k y) 0 (k + 1) = (amg x g 0 k || decide (vc x y = 0)) := by
  have e : va_up g k y (0 + k) = y := by rw [Nat.zero_add]; exact va_up_self _ _ _
  simp only [amg]
  rw [amg_on (g' := g) (fun j hj => va_up_ne _ _ (by omega)), e]
theorem amg_ex {x : jv} {g : Nat → jv} : ∀ {m : Nat}, amg x g 0 m = true → ∃ j, j < m ∧ vc x (g j) = 0
  | 0, h => by simp [amg] at h
  | m + 1, h => by
    simp only [amg, Bool.or_eq_true, decide_eq_true_eq] at h
    rcases h with h | h
    · obtain ⟨j, h1, h2⟩ := amg_ex h
      exact ⟨j, by omega, h2⟩
    · exact ⟨m, by omega, by rw [Nat.zero_add] at h; exact h⟩
theorem vc_sw0 {x y : jv} : vc x y = 0 ↔ vc y x = 0 := by have := vc_swap x y; omega
theorem eqB_st {f : Nat → Option jv} {x y : jv} {e : Nat} (hf : f e = some x) : eqB f y (e + 1) = (eqB f y e || decide (vc x y = 0)) := by simp only [eqB, hf]
theorem dQ_0 {f : Nat → Option jv} {lo hi : jv} : dQ f lo hi 0 := Or.inl ⟨0, fun _ => (0, 0, []), rfl, rfl, by omega, fun _ => rfl, fun r x h => absurd h (Nat.not_lt_zero _), fun j h => absurd h (Nat.not_lt_zero _)⟩
theorem dQ_n {f : Nat → Option jv} {lo hi : jv} {e : Nat} (hf : f e = none) (h : dQ f lo hi e) : dQ f lo hi (e + 1) := by
  have hn := nf_0 (fstR_n hf)
  rcases h with ⟨k, g, h1, h2, h3, h4, h5, h6⟩ | ⟨h1, h2⟩
  · refine Or.inl ⟨k, g, dct_no h1 hf, by rw [hn]; exact h2, h3, fun x => ?_, fun r x hr hx hq => ?_, h6⟩
    · rw [h4 x]; simp [eqB, hf]
    · by_cases q : r = e
      · subst q; rw [hf] at hx; cases hx
      · exact h5 r x (by omega) hx hq
  · exact Or.inr ⟨dct_none h1 1, by rw [hn]; exact h2⟩
theorem dQ_s {f : Nat → Option jv} {lo hi x : jv} {e : Nat} (hf : f e = some x) (hr : inR lo hi x) (h : dQ f lo hi e) : dQ f lo hi (e + 1) := by
  have hs := fstR_s hf
  rcases h with ⟨k, g, h1, h2, h3, h4, h5, h6⟩ | ⟨h1, h2⟩
  · have ha := h4 x
    by_cases q : eqB f x e = true
    · rw [q] at hs ha
      refine Or.inl ⟨k, g, dct_in h1 hf ha, by rw [nf_0 hs]; exact h2, h3, fun y => ?_, fun r y hr' hx hq => ?_, h6⟩
      · rw [eqB_st hf, ← h4 y]
        by_cases z : vc x y = 0
        · rw [← amg_congr z, ha]; rfl
        · simp [z]
      · by_cases z : r = e
        · subst z; rw [hs] at hq; cases hq
        · exact h5 r y (by omega) hx hq
    · rw [Bool.not_eq_true] at q
      rw [q] at hs ha
      have hn : nfR f (e + 1) = nfR f e + 1 := nf_1 hs
      by_cases z : 100 ≤ k
      · exact Or.inr ⟨dct_bad h1 hf ha (Or.inl z), by omega⟩
      · refine Or.inl ⟨k + 1, va_up g k x, dct_add h1 hf ha (fun y => y.elim z (fun y => y.elim hr.1 hr.2)), by omega, by omega, fun y => ?_, fun r y hr' hx hq => ?_, fun j hj => ?_⟩
        · rw [amg_up, eqB_st hf, h4 y]
          congr 1
          exact decide_eq_decide.mpr vc_sw0
        · by_cases u : r = e
          · subst u
            rw [hf] at hx
            cases hx
            rw [← h2]; exact va_up_self _ _ _
          · have h7 := nf_le (f := f) (a := r + 1) (b := e) (by omega)
            rw [nf_1 hq] at h7
            rw [va_up_ne _ _ (by omega)]
            exact h5 r y (by omega) hx hq
        · by_cases u : j = k
          · subst u; rw [va_up_self]; exact hr
          · rw [va_up_ne _ _ u]; exact h6 j (by omega)
  · exact Or.inr ⟨dct_none h1 1, Nat.lt_of_lt_of_le h2 (nf_le (Nat.le_succ e))⟩
theorem dQ_bad {f : Nat → Option jv} {lo hi x : jv} {e : Nat} (hf : f e = some x) (hr : ¬ inR lo hi x) (h : dQ f lo hi e) : dct f lo hi (e + 1) = none := by
  rcases h with ⟨k, g, h1, h2, h3, h4, h5, h6⟩ | ⟨h1, h2⟩
  · have ha : amg x g 0 k = false := by
      rw [← Bool.not_eq_true]
      intro z
      obtain ⟨j, j1, j2⟩ := amg_ex z
      have h7 := h6 j j1
      unfold inR at h7 hr
      rw [vc_congr j2, vc_congr j2] at hr
      exact hr h7
    refine dct_bad h1 hf ha (Or.inr ?_)
    by_cases z : vc x lo < 0
    · exact Or.inl z
    · exact Or.inr (Decidable.not_not.mp (fun y => hr ⟨z, y⟩))
  · exact dct_none h1 1
theorem dct_end {f : Nat → Option jv} {lo hi : jv} {e n : Nat} (h : dct f lo hi e = none) (hn : e ≤ n) : dct f lo hi n = none := by
  have := dct_none h (n - e)
  rw [show e + (n - e) = n by omega] at this
  exact this
theorem dQ_big {f : Nat → Option jv} {lo hi : jv} {e : Nat} (h : dQ f lo hi e) (hb : 100 < nfR f e) : dct f lo hi e = none := by
  rcases h with ⟨k, g, h1, h2, h3, -⟩ | ⟨h1, -⟩
  · omega
  · exact h1
theorem dQ_ok {f : Nat → Option jv} {lo hi : jv} {e : Nat} (h : dQ f lo hi e) (hb : nfR f e ≤ 100) : ∃ g, dW f lo hi e (nfR f e) g := by
  rcases h with ⟨k, g, h1⟩ | ⟨-, h2⟩
  · have h2 := h1.2.1
    subst h2
    exact ⟨g, h1⟩
  · omega
theorem nf_pos {f : Nat → Option jv} {lo hi x : jv} {n k r : Nat} {g : Nat → jv} (h : dW f lo hi n k g) (hf : f r = some x) (hr : r < n) : 0 < k := by
  obtain ⟨-, -, -, h4, -⟩ := h
  have h1 := h4 x
  rw [eqB_mono (eqB_t hf (vc_self x)) (b := n) (by omega)] at h1
  rcases Nat.eq_zero_or_pos k with rfl | z
  · simp [amg] at h1
  · exact z
theorem mx_none {f : Nat → Option jv} : ∀ {n : Nat}, mxR f n = none → ∀ r, r < n → f r = none
  | 0, _, r, hr => absurd hr (Nat.not_lt_zero _)
  | n + 1, h, r, hr => by
    cases hf : f n with
    | none =>
      rw [mxR_n hf] at h
      by_cases q : r = n
      · subst q; exact hf
      · exact mx_none h r (by omega)
    | some x =>
      exfalso
      cases hm : mxR f n with
      | none => rw [mxR_a hf hm] at h; cases h
      | some y =>
        by_cases q : 0 < vc x y
        · rw [mxR_b hf hm q] at h; cases h
        · rw [mxR_c hf hm q] at h; cases h
theorem dct_0 {f : Nat → Option jv} {lo hi : jv} : ∀ {n : Nat}, (∀ r, r < n → f r = none) → dct f lo hi n = some (0, fun _ => (0, 0, []))
  | 0, _ => rfl
  | n + 1, h => dct_no (dct_0 (n := n) (fun r hr => h r (by omega))) (h n (by omega))
theorem esum_nf {f : Nat → Option jv} {g : Nat → jv} {n : Nat} (h : ∀ r x, r < n → f r = some x → fstR f r = true → g (nfR f r) = x) : ∀ i, i ≤ n → esum g (nfR f i) ≤ tsum f i
  | 0, _ => Nat.le_refl _
  | i + 1, hi => by
    have ih := esum_nf h i (by omega)
    cases hf : f i with
    | none =>
      rw [nf_0 (fstR_n hf)]
      simp only [tsum, hf]
      omega
    | some x =>
      simp only [tsum, hf]
      by_cases q : fstR f i = true
      · rw [nf_1 q]
        simp only [esum]
        rw [h i x (by omega) hf q]
        omega
      · rw [Bool.not_eq_true] at q
        rw [nf_0 q]
        omega
theorem dict_n {s : jS} {x : Int32} (h : cix s x = none) : sp_dict s x = (0, s) := by simp only [sp_dict, h]
theorem dict_f {s : jS} {x : Int32} {c : Nat} (h : cix s x = some c) (hd : dcr (g_kn s c) ((g_mo s c).map Prod.fst) ((g_mo s c).map Prod.snd) (g_rf s c) (g_rc s c) = none) : sp_dict s x = (0, s) := by simp only [sp_dict, h, hd]
theorem dict_t {s : jS} {x : Int32} {c k : Nat} {g : Nat → jv} (h : cix s x = some c) (hd : dcr (g_kn s c) ((g_mo s c).map Prod.fst) ((g_mo s c).map Prod.snd) (g_rf s c) (g_rc s c) = some (k, g)) : sp_dict s x = (1, s_ef (s_ec s (va_up (g_ec s) c k)) (va_up (g_ef s) c g)) := by simp only [sp_dict, h, hd]
theorem dict_f2 {s : jS} {x : Int32} {c : Nat} {p : jv × jv} (h : cix s x = some c) (hk : g_kn s c = true) (hp : g_mo s c = some p) (hd : dct (g_rf s c) p.1 p.2 (g_rc s c) = none) : sp_dict s x = (0, s) := dict_f h (by rw [hk, hp]; exact dcr_n hd)
theorem dict_f3 {s : jS} {x : Int32} {c : Nat} {p : jv × jv} (h : cix s x = some c) (hk : g_kn s c = true) (hp : g_mo s c = some p) (hd : mxR (g_rf s c) (g_rc s c) = none) : sp_dict s x = (0, s) := dict_f h (by rw [hk, hp]; exact dcr_0 (dct_0 (mx_none hd)))
theorem dict_t2 {s : jS} {x : Int32} {c k : Nat} {g : Nat → jv} {p : jv × jv} (h : cix s x = some c) (hk : g_kn s c = true) (hp : g_mo s c = some p) (hd : dct (g_rf s c) p.1 p.2 (g_rc s c) = some (k, g)) (h0 : 0 < k) : sp_dict s x = (1, s_ef (s_ec s (va_up (g_ec s) c k)) (va_up (g_ef s) c g)) := dict_t h (by rw [hk, hp]; exact dcr_s h0 hd)
/-- the words that are there when i rows have been looked at -/
def dL (s : jS) (m m' : jM) (c i : Nat) (g : Nat → jv) : Prop := rest13 m m' ∧ (∀ j, ¬ (16032 + 100 * c ≤ j ∧ j < 16032 + 100 * c + 100) → same3 m m' j) ∧ (∀ b, ¬ (136192 + 8000 * c ≤ b ∧ b < 136192 + 8000 * c + 8000) → mg_bytes m' b = mg_bytes m b) ∧ (mg_ty m' = mg_ty m ∧ mg_cnt m' = mg_cnt m ∧ mg_us m' = mg_us m ∧ mg_rw m' = mg_rw m ∧ mg_ms m' = mg_ms m ∧ mg_kn m' = mg_kn m ∧ mg_hm m' = mg_hm m ∧ mg_has m' = mg_has m) ∧ (∀ c', c' ≠ c → mg_wd m' c' = mg_wd m c') ∧ mg_wd m' c = nI (nfR (g_rf s c) i) ∧ ∀ j, j < nfR (g_rf s c) i → valM m' (g_ty s c) (16032 + 100 * c + j) (g j) (136192 + 8000 * c + esum g j)
theorem dL_0 {s : jS} {m : jM} {c : Nat} {g : Nat → jv} : dL s m (mp_wd m (upd (mg_wd m) c 0)) c 0 g := ⟨⟨rfl, rfl, rfl, rfl, rfl, rfl, rfl, rfl, rfl, rfl, rfl, rfl, rfl⟩, fun _ _ => ⟨rfl, rfl, rfl⟩, fun _ _ => rfl, ⟨rfl, rfl, rfl, rfl, rfl, rfl, rfl, rfl⟩, fun _ hn => upd_ne hn, upd_self, fun j hj => absurd hj (Nat.not_lt_zero _)⟩
theorem dL_s {s : jS} {m m' : jM} {c i : Nat} {g : Nat → jv} (h : dL s m m' c i g) (hf : fstR (g_rf s c) i = false) : dL s m m' c (i + 1) g := by
  unfold dL at h ⊢
  rw [nf_0 hf]
  exact h
theorem dL_rows {s : jS} {m m' : jM} {c i : Nat} {g : Nat → jv} (hR : relM s m) (hW : WF s) (hc : c < g_cc s) (h : dL s m m' c i g) : rowsM s m' c := by
  obtain ⟨-, h2, h3, ⟨e1, e2, -, -, -, -, -, e8⟩, -⟩ := h
  exact rowsM_keep hR hW hc e1 e2 (fun j hj => h2 j (by omega)) (fun b hb => h3 b (by omega)) e8
theorem rest13.tr {m m' m2 : jM} (h : rest13 m m') (h2 : rest13 m' m2) : rest13 m m2 := by
  obtain ⟨a1, a2, a3, a4, a5, a6, a7, a8, a9, a10, a11, a12, a13⟩ := h
  obtain ⟨b1, b2, b3, b4, b5, b6, b7, b8, b9, b10, b11, b12, b13⟩ := h2
  exact ⟨b1.trans a1, b2.trans a2, b3.trans a3, b4.trans a4, b5.trans a5, b6.trans a6, b7.trans a7, b8.trans a8, b9.trans a9, b10.trans a10, b11.trans a11, b12.trans a12, b13.trans a13⟩
theorem dL_add {s : jS} {m m' m2 : jM} {c i n K : Nat} {g : Nat → jv} {x : jv} {bb : Nat → Int32} (h : dL s m m' c i g) (h16 : c < 16) (hi : i < 1000) (hf : fstR (g_rf s c) i = true) (hnf : nfR (g_rf s c) i < 100) (hg : g (nfR (g_rf s c) i) = x) (hv : valM m' (g_ty s c) (1000 * c + i) x (8000 * c + n)) (hK : K = x.2.2.length) (he : esum g (nfR (g_rf s c) i) + K ≤ 8000)
    (b1 : ∀ j, j < K → bb (136192 + 8000 * c + esum g (nfR (g_rf s c) i) + j) = mg_bytes m' (8000 * c + n + j)) (b2 : ∀ b, b < 136192 + 8000 * c + esum g (nfR (g_rf s c) i) ∨ 136192 + 8000 * c + esum g (nfR (g_rf s c) i) + K ≤ b → bb b = mg_bytes m' b)
    (n1 : mg_num m2 = vp_updL (mg_num m') (16032 + 100 * c + nfR (g_rf s c) i) (mg_num m' (1000 * c + i))) (n2 : mg_size m2 = upd (mg_size m') (16032 + 100 * c + nfR (g_rf s c) i) (nI K)) (n3 : mg_from m2 = upd (mg_from m') (16032 + 100 * c + nfR (g_rf s c) i) (nI (136192 + 8000 * c + esum g (nfR (g_rf s c) i)))) (n4 : mg_bytes m2 = bb) (n5 : mg_wd m2 = upd (mg_wd m') c (nI (nfR (g_rf s c) i + 1))) (n6 : rest13 m' m2)
    (n7 : mg_ty m2 = mg_ty m' ∧ mg_cnt m2 = mg_cnt m' ∧ mg_us m2 = mg_us m' ∧ mg_rw m2 = mg_rw m' ∧ mg_ms m2 = mg_ms m' ∧ mg_kn m2 = mg_kn m' ∧ mg_hm m2 = mg_hm m' ∧ mg_has m2 = mg_has m') : dL s m m2 c (i + 1) g := by
  obtain ⟨h1, h2, h3, ⟨e1, e2, e3, e4, e5, e6, e7, e8⟩, h5, h6, h7⟩ := h
  obtain ⟨d1, d2, d3, d4, d5, d6, d7, d8⟩ := n7
  have hs : ∀ j, j ≠ 16032 + 100 * c + nfR (g_rf s c) i → same3 m' m2 j := fun j hj => ⟨by rw [n1]; exact updL_ne hj, by rw [n2]; exact upd_ne hj, by rw [n3]; exact upd_ne hj⟩
  refine ⟨h1.tr n6, fun j hj => ?_, fun b hb => ?_, ⟨d1.trans e1, d2.trans e2, d3.trans e3, d4.trans e4, d5.trans e5, d6.trans e6, d7.trans e7, d8.trans e8⟩, fun c' hn => ?_, ?_, fun j hj => ?_⟩
  · obtain ⟨f1, f2, f3⟩ := h2 j hj
    obtain ⟨f4, f5, f6⟩ := hs j (by omega)
    exact ⟨f4.trans f1, f5.trans f2, f6.trans f3⟩
  · rw [n4]; exact (b2 b (by omega)).trans (h3 b hb)
  · rw [n5]; exact (upd_ne hn).trans (h5 c' hn)
  · rw [nf_1 hf, n5]; exact upd_self
  · rw [nf_1 hf] at hj
    by_cases q : j = nfR (g_rf s c) i
    · subst q
      rw [hg]
      refine ⟨fun z => by rw [n1, updL_self]; exact hv.1 z, fun z => ?_⟩
      obtain ⟨v1, v2, v3⟩ := hv.2 z
      refine ⟨by rw [n2, upd_self, hK], by rw [n3, upd_self], fun k hk => ?_⟩
      rw [n4, b1 k (by omega)]
      exact v3 k hk
    · have l := esum_le (f := g) (a := j + 1) (b := nfR (g_rf s c) i) (by omega)
      simp only [esum] at l
      exact valM_ok (m := m') (hs _ (by omega)) (fun k hk => by rw [n4]; exact b2 _ (by omega)) (h7 j (by omega))
theorem relM_dict {s : jS} {m m' : jM} {c k : Nat} {g : Nat → jv} (hR : relM s m) (hW : WF s) (hc : c < g_cc s) (hkn : g_kn s c = true) (hk : nfR (g_rf s c) (g_rc s c) = k) (hes : esum g k ≤ 8000) (h : dL s m m' c (g_rc s c) g) : relM (s_ef (s_ec s (va_up (g_ec s) c k)) (va_up (g_ef s) c g)) m' := by
  have h16 : c < 16 := by have := hW.2.2.1; omega
  have hok := hW.2.2.2.2.2.2.1 c hc
  obtain ⟨h1, h2, h3, h4, h5, h6⟩ := hR.2.2.1 c hc
  obtain ⟨u1, u2, u3, ⟨e1, e2, e3, e4, e5, e6, e7, e8⟩, u5, u6, u7⟩ := h
  rw [hk] at u6 u7
  obtain ⟨t, ht⟩ : ∃ t, t = s_ef (s_ec s (va_up (g_ec s) c k)) (va_up (g_ef s) c g) := ⟨_, rfl⟩
  have es : sameRest s t := by rw [ht]; exact ⟨rfl, rfl, rfl, rfl, rfl, rfl, rfl, rfl, rfl, rfl, rfl, rfl, rfl⟩
  have ec : ∀ c', c' ≠ c → colEq s t c' := fun c' hn => by rw [ht]; exact ⟨rfl, rfl, rfl, rfl, rfl, rfl, rfl, (va_up_ne _ _ hn).symm, (va_up_ne _ _ hn).symm⟩
  have f1 : g_ty t = g_ty s ∧ g_rc t = g_rc s ∧ g_rf t = g_rf s ∧ g_kn t = g_kn s ∧ g_kr t = g_kr s ∧ g_km t = g_km s ∧ g_mo t = g_mo s ∧ g_ec t c = k ∧ g_ef t c = g := by rw [ht]; exact ⟨rfl, rfl, rfl, rfl, rfl, rfl, rfl, va_up_self _ _ _, va_up_self _ _ _⟩
  rw [← ht]
  obtain ⟨a1, a2, a3, a4, a5, a6, a7, a8, a9⟩ := f1
  refine relM_col2 (t := t) (c := c) hR hW hc es ec (by rw [a1]) u1 (fun i _ hi => u2 i (fun z => hi (by unfold cI; omega))) (fun b hb => u3 b (fun z => hb (by unfold cB; omega))) (fun c' hn => ⟨by rw [e1], by rw [e2], by rw [e3], by rw [e4], by rw [e5], u5 c' hn, by rw [e6], by rw [e7]⟩) (fun j _ => by rw [e8]) (fun z r hr => by rw [(u2 (1000 * c + r) (by omega)).2.1]; exact hR.2.2.2.2.1 c h16 (fun y => z y.2) r hr) ?_
  refine ⟨by rw [e1, a1]; exact h1, by rw [e2, a2]; exact h2, by rw [e3, a2, a3]; exact h3, ?_, by rw [e6, a4]; exact h5, fun _ => ?_⟩
  · have hz := rows_ok (m' := m') hok (fun r hr => u2 _ (by omega)) (fun b b1 b2 => u3 b (by omega)) (fun r _ => by rw [e8]) h4
    unfold rowM at hz ⊢
    rw [a1, a2, a3]
    exact hz
  · obtain ⟨g1, g2, g3, g4, g5, g6, g7⟩ := h6 hkn
    unfold knM
    rw [a1, a5, a6, a7, a8, a9, e4, e5, e7]
    refine ⟨g1, g2, g3, u6, fun p hp => ?_, hes, u7⟩
    obtain ⟨w1, w2⟩ := g5 p hp
    obtain ⟨v1, v2⟩ := (hok.2.2.2.2 hkn).2.2.2.2.2.2.2 p hp
    have l1 := v1.2.2.2.1
    have l2 := v2.2.2.2.1
    exact ⟨valM_ok (u2 _ (by omega)) (fun k hk => u3 _ (by omega)) w1, valM_ok (u2 _ (by omega)) (fun k hk => u3 _ (by omega)) w2⟩
theorem fst_some {f : Nat → Option jv} {i : Nat} (h : fstR f i = true) : ∃ x, f i = some x := by
  cases e : f i with
  | none => rw [fstR_n e] at h; cases h
  | some x => exact ⟨x, rfl⟩
theorem mo_none {a : Option (jv × jv)} (h : a.isSome = false) : a.map Prod.fst = none := by
  cases a with
  | none => rfl
  | some p => cases h
