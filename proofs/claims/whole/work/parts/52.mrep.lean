/-! How the reference holds the abstract state. -/
def esum (f : Nat → jv) : Nat → Nat
  | 0 => 0
  | n + 1 => esum f n + (f n).2.2.length
def rowM (s : jS) (m : jM) (c r : Nat) : Prop := mg_has m (1000 * c + r) = bI (g_rf s c r).isSome ∧ ∀ x, g_rf s c r = some x → valM m (g_ty s c) (1000 * c + r) x (8000 * c + tsum (g_rf s c) r)
def knM (s : jS) (m : jM) (c : Nat) : Prop := mg_rw m c = g_kr s c ∧ mg_ms m c = g_km s c ∧ mg_hm m c = bI (g_mo s c).isSome ∧ mg_wd m c = nI (g_ec s c) ∧ (∀ p, g_mo s c = some p → valM m (g_ty s c) (16000 + c) p.1 (128000 + 512 * c) ∧ valM m (g_ty s c) (16016 + c) p.2 (128000 + 512 * c + 256)) ∧ esum (g_ef s c) (g_ec s c) ≤ 8000 ∧ ∀ j, j < g_ec s c → valM m (g_ty s c) (16032 + 100 * c + j) (g_ef s c j) (136192 + 8000 * c + esum (g_ef s c) j)
def colM (s : jS) (m : jM) (c : Nat) : Prop := mg_ty m c = g_ty s c ∧ mg_cnt m c = nI (g_rc s c) ∧ mg_us m c = nI (tsum (g_rf s c) (g_rc s c)) ∧ (∀ r, r < g_rc s c → rowM s m c r) ∧ mg_kn m c = bI (g_kn s c) ∧ (g_kn s c = true → knM s m c)
def stM (s : jS) (m : jM) (j : Nat) : Prop := mg_kd m j = g_sk s j ∧ (g_sk s j < 5 → mg_fi m j = nI (g_sc s j)) ∧ mg_op m j = g_so s j ∧ mg_ot m j = g_sp s j ∧ mg_mn m j = g_sm s j
def newM (m : jM) (c : Nat) : Prop := mg_cnt m c = 0 ∧ mg_us m c = 0 ∧ mg_kn m c = 0
def litM (s : jS) (m : jM) (k : Nat) : Prop := mg_lt m k = (g_lit s k).1 ∧ valM m (g_lit s k).1 (17632 + k) (g_lit s k) (264192 + 256 * k)
def relM (s : jS) (m : jM) : Prop :=
  (mg_tn m = nI (g_tn s) ∧ ∀ j, j < g_tn s → mg_tape m j = nI (g_tp s j)) ∧
  (mg_cc m = nI (g_cc s) ∧ mg_ln m = nI (g_ln s) ∧ mg_sn m = nI (g_sn s) ∧ mg_zn m = nI (g_zn s)) ∧
  (∀ c, c < g_cc s → colM s m c) ∧ (∀ c, c < 16 → g_cc s ≤ c → newM m c) ∧
  (∀ c, c < 16 → ¬ (c < g_cc s ∧ g_ty s c = 2) → ∀ r, r < 1000 → mg_size m (1000 * c + r) = 0) ∧
  (∀ k, k < g_ln s → litM s m k) ∧ (∀ j, j < g_sn s → stM s m j) ∧ ∀ r, r < g_zn s → mg_tr m r = trv (g_zt s r)
def RepM (G : jG) (w : jw) (o : Nat) (s : jS) : Prop := ∃ q m, MH G w o q m ∧ relM s m
/-- a value that may be compared -/
def cmpOK (m : jM) (t : Int32) (i : Nat) (x : jv) : Prop := ∃ p, valM m t i x p ∧ vok t x ∧ i < 17696 ∧ p + x.2.2.length ≤ 280576
theorem c_M_cmp (l : Launch) (o : Nat) (q : Nat → Nat) (m : jM) (t : Int32) (i j : Nat) (x y : jv) : MC l y_M_compare b_M_compare 5 (some .int) 0 0 0
    (fun G w av => av = [.ref o, .int t, .int (nI i), .int (nI j)] ∧ MH G w o q m ∧ cmpOK m t i x ∧ cmpOK m t j y)
    (fun _ w _ r w' => w' = w ∧ ∃ z, r = some (.int z) ∧ sgb z (vc x y)) := by
  intro G w av sz hp
  obtain ⟨e, hM, ⟨p, h1⟩, ⟨p', h2⟩⟩ := hp
  exact c_M_compare l o q m t i j x y p p' G w av sz ⟨e, hM, h1, h2⟩
theorem tsum_le {f : Nat → Option jv} {a : Nat} : ∀ {b : Nat}, a ≤ b → tsum f a ≤ tsum f b
  | 0, h => by have : a = 0 := by omega
               subst this; exact Nat.le_refl _
  | b + 1, h => by
    by_cases q : a = b + 1
    · subst q; exact Nat.le_refl _
    · have := tsum_le (f := f) (a := a) (b := b) (by omega)
      simp only [tsum]
      omega
theorem tsum_at {f : Nat → Option jv} {r n : Nat} {x : jv} (h : f r = some x) (hr : r < n) : tsum f r + x.2.2.length ≤ tsum f n := by
  have h1 := tsum_le (f := f) (a := r + 1) (b := n) (by omega)
  simp only [tsum, h] at h1
  exact h1
theorem esum_le {f : Nat → jv} {a : Nat} : ∀ {b : Nat}, a ≤ b → esum f a ≤ esum f b
  | 0, h => by have : a = 0 := by omega
               subst this; exact Nat.le_refl _
  | b + 1, h => by
    by_cases q : a = b + 1
    · subst q; exact Nat.le_refl _
    · have := esum_le (f := f) (a := a) (b := b) (by omega)
      simp only [esum]
      omega
theorem row_ok {s : jS} {m : jM} {c r : Nat} {x : jv} (hR : relM s m) (hW : WF s) (hc : c < g_cc s) (hr : r < g_rc s c) (hx : g_rf s c r = some x) : cmpOK m (g_ty s c) (1000 * c + r) x := by
  obtain ⟨-, -, wcc, -, -, -, wcol, -⟩ := hW
  obtain ⟨-, c2, c3, c4, -⟩ := wcol c hc
  have h1 := (hR.2.2.1 c hc).2.2.2.1 r hr
  have h2 := tsum_at hx hr
  exact ⟨_, h1.2 x hx, c4 r hr x hx, by omega, by omega⟩
theorem lo_ok {s : jS} {m : jM} {c : Nat} {p : jv × jv} (hR : relM s m) (hW : WF s) (hc : c < g_cc s) (hk : g_kn s c = true) (hp : g_mo s c = some p) : cmpOK m (g_ty s c) (16000 + c) p.1 ∧ cmpOK m (g_ty s c) (16016 + c) p.2 := by
  obtain ⟨-, -, wcc, -, -, -, wcol, -⟩ := hW
  obtain ⟨-, -, -, -, c5⟩ := wcol c hc
  obtain ⟨-, -, -, -, -, -, -, c6⟩ := c5 hk
  obtain ⟨v1, v2⟩ := c6 p hp
  obtain ⟨h1, h2⟩ := ((hR.2.2.1 c hc).2.2.2.2.2 hk).2.2.2.2.1 p hp
  have l1 := v1.2.2.2.1
  have l2 := v2.2.2.2.1
  exact ⟨⟨_, h1, v1, by omega, by omega⟩, ⟨_, h2, v2, by omega, by omega⟩⟩
theorem word_ok {s : jS} {m : jM} {c j : Nat} (hR : relM s m) (hW : WF s) (hc : c < g_cc s) (hk : g_kn s c = true) (hj : j < g_ec s c) : cmpOK m (g_ty s c) (16032 + 100 * c + j) (g_ef s c j) := by
  obtain ⟨-, -, wcc, -, -, -, wcol, -⟩ := hW
  obtain ⟨-, -, -, -, c5⟩ := wcol c hc
  obtain ⟨-, -, -, -, c7, -, c6, -⟩ := c5 hk
  obtain ⟨-, -, -, -, -, h5, h6⟩ := (hR.2.2.1 c hc).2.2.2.2.2 hk
  have h7 := esum_le (f := g_ef s c) (a := j + 1) (b := g_ec s c) (by omega)
  simp only [esum] at h7
  exact ⟨_, h6 j hj, c6 j hj, by omega, by omega⟩
theorem lit_ok {s : jS} {m : jM} {k : Nat} {t : Int32} (hR : relM s m) (hW : WF s) (hk : k < g_ln s) (ht : (g_lit s k).1 = t) : cmpOK m t (17632 + k) (g_lit s k) := by
  obtain ⟨-, -, -, wln, -, -, -, wlit, -⟩ := hW
  subst ht
  have v := wlit k hk
  have l := v.2.2.2.1
  exact ⟨_, (hR.2.2.2.2.2.1 k hk).2, v, by omega, by omega⟩
theorem aL_t {ty p m : Int32} {ln : Nat} {lit : Nat → jv} (hl : ln ≤ 64) (h : 0 ≤ p.toInt ∧ 1 ≤ m.toInt ∧ p.toInt + m.toInt ≤ ln) : ∃ P N : Nat, p = nI P ∧ m = nI N ∧ P + N ≤ ln ∧ 1 ≤ N ∧ aLt ty p m ln lit = tyAll ty lit P N := by
  have h1 : ¬ p < 0 := by rw [Int32.lt_iff_toInt_lt, Int32.toInt_zero]; omega
  have h2 : ¬ m < 0 := by rw [Int32.lt_iff_toInt_lt, Int32.toInt_zero]; omega
  obtain ⟨P, hP, rfl⟩ := nI_of h1
  obtain ⟨N, hN, rfl⟩ := nI_of h2
  have e : aLt ty (nI P) (nI N) ln lit = tyAll ty lit P N := by
    unfold aLt
    rw [if_pos h, nI_clamp hP, nI_clamp hN]
  rw [nI_toInt hP, nI_toInt hN] at h
  exact ⟨P, N, rfl, rfl, by omega, by omega, e⟩
theorem aL_f {ty p m : Int32} {ln : Nat} {lit : Nat → jv} (h : ¬ (0 ≤ p.toInt ∧ 1 ≤ m.toInt ∧ p.toInt + m.toInt ≤ ln)) : aLt ty p m ln lit = false := by
  unfold aLt
  rw [if_neg h]
theorem aL_no {p m : Int32} {ln : Nat} (hl : ln ≤ 64) (h : ¬ (0 ≤ p.toInt ∧ 1 ≤ m.toInt ∧ p.toInt + m.toInt ≤ ln)) (h1 : ¬ p < 0) (h2 : ¬ m ≤ 0) (h3 : m ≤ nI ln - p) : False := by
  rw [Int32.lt_iff_toInt_lt, Int32.toInt_zero] at h1
  rw [Int32.le_iff_toInt_le, Int32.toInt_zero] at h2
  have e : (nI ln - p).toInt = ln - p.toInt := by
    have b := p.toInt_lt
    rw [Int32.toInt_sub, nI_toInt (by omega)]
    refine Int.bmod_eq_of_le (by simp; omega) (by simp; omega)
  rw [Int32.le_iff_toInt_le, e] at h3
  omega
theorem tyAll_mono {ty : Int32} {lit : Nat → jv} {p i : Nat} (h : tyAll ty lit p i = false) : ∀ {n : Nat}, i ≤ n → tyAll ty lit p n = false
  | 0, q => by have e : i = 0 := by omega
               subst e; exact h
  | n + 1, q => by
    by_cases e : i = n + 1
    · subst e; exact h
    · simp [tyAll, tyAll_mono h (n := n) (by omega)]
theorem nar_b {b : Bool} : narrow .boolean (.int (bI b)) = .int (bI b) := by cases b <;> rfl
theorem opK_t {op : Int32} (h1 : ¬ op < 0) (h2 : op ≤ 5) : opK op = true := by
  unfold opK
  rw [Int32.not_lt] at h1
  simp [h1, h2]
theorem opK_f1 {op : Int32} (h1 : op < 0) : opK op = false := by
  unfold opK
  have h2 : ¬ 0 ≤ op := Int32.not_le.mpr h1
  simp only [h2, decide_false, Bool.false_and]
theorem opK_f2 {op : Int32} (h1 : ¬ op ≤ 5) : opK op = false := by
  unfold opK
  simp only [h1, decide_false, Bool.and_false]
theorem kd_5 {kd : Int32} (h1 : ¬ kd < 0) (h2 : kd < 5) : kd = 0 ∨ kd = 1 ∨ kd = 2 ∨ kd = 3 ∨ kd = 4 := by
  obtain ⟨j, hj, rfl⟩ := nI_of h1
  have h3 : j < 5 := (nI_ltI (b := 5) hj (by omega)).mp h2
  rcases (show j = 0 ∨ j = 1 ∨ j = 2 ∨ j = 3 ∨ j = 4 by omega) with rfl | rfl | rfl | rfl | rfl
  · exact Or.inl rfl
  · exact Or.inr (Or.inl rfl)
  · exact Or.inr (Or.inr (Or.inl rfl))
  · exact Or.inr (Or.inr (Or.inr (Or.inl rfl)))
  · exact Or.inr (Or.inr (Or.inr (Or.inr rfl)))
theorem tk_a {kd : Int32} (h : kd < 5) : tkN kd = 0 := by unfold tkN; rw [if_pos h]
theorem tk_b {kd : Int32} (h : kd = 5) : tkN kd = 1 := by subst h; decide
theorem tk_c {kd : Int32} (h : ¬ kd < 5) (h2 : ¬ kd = 5) : tkN kd = 2 := by unfold tkN; rw [if_neg h, if_neg h2]
theorem nI_dn {c : Nat} (h : 1 ≤ c) : nI c + (-1) = nI (c - 1) := by
  obtain ⟨d, rfl⟩ : ∃ d, c = d + 1 := ⟨c - 1, by omega⟩
  have := nI_pred d
  rw [show d + 1 - 1 = d by omega, ← this, Int32.sub_eq_add_neg]
theorem nI_dn1 {c : Nat} (h : 1 ≤ c) : nI c - 1 = nI (c - 1) := by
  obtain ⟨d, rfl⟩ : ∃ d, c = d + 1 := ⟨c - 1, by omega⟩
  exact nI_pred d
theorem nI_lt2 {c : Nat} (h : c < 2 ^ 31) : nI c < 2 ↔ c < 2 := nI_ltI (b := 2) h (by omega)
theorem nI_lt1 {c : Nat} (h : c < 2 ^ 31) : nI c < 1 ↔ c < 1 := nI_ltI (b := 1) h (by omega)
