/-! Values in the reference's memory, and their order. -/
def valM (m : jM) (t : Int32) (i : Nat) (x : jv) (p : Nat) : Prop := (¬ t = 2 → mg_num m i = x.2.1) ∧ (t = 2 → mg_size m i = nI x.2.2.length ∧ mg_from m i = nI p ∧ ∀ k, k < x.2.2.length → mg_bytes m (p + k) = nI (x.2.2.getD k 0))
def sgb (r : Int32) (c : Int) : Prop := sg r c ∧ -300 ≤ r.toInt ∧ r.toInt ≤ 300
theorem cmp_end {x y : jv} {k : Nat} (hx : vok 2 x) (hy : vok 2 y) (h1 : k ≤ x.2.2.length) (h2 : k ≤ y.2.2.length) (h3 : x.2.2.length ≤ k ∨ y.2.2.length ≤ k) (htc : tc (x.2.2.drop k) (y.2.2.drop k) = tc x.2.2 y.2.2) : sgb (nI x.2.2.length - nI y.2.2.length) (vc x y) := by
  have hte := tc_end h1 h2 h3
  rw [htc] at hte
  have hn : x.2.1 = 0 := hx.2.1 rfl
  have hn2 : y.2.1 = 0 := hy.2.1 rfl
  have l1 := hx.2.2.2.1
  have l2 := hy.2.2.2.1
  have hd : (nI x.2.2.length - nI y.2.2.length).toInt = (x.2.2.length : Int) - (y.2.2.length : Int) := pk_sub_toInt (by omega) (by omega)
  have hv : (vc x y < 0 ↔ x.2.2.length < y.2.2.length) ∧ (vc x y = 0 ↔ x.2.2.length = y.2.2.length) := by
    unfold vc
    by_cases hz : tc x.2.2 y.2.2 = 0
    · rw [if_pos hz, hn, hn2]
      have h4 := hte.2.mp hz
      have h5 : ¬ (0 : Int64) < 0 := by decide
      rw [if_neg h5, if_neg h5]
      omega
    · rw [if_neg hz]; exact hte
  exact ⟨sg_of (by rw [hd]; omega) (by rw [hd]; omega), by rw [hd]; omega, by rw [hd]; omega⟩
theorem cmp_sub {a b : Nat} (ha : a < 256) (hb : b < 256) (h : nI a - nI b = 0) : nI a = nI b := by
  have hd : (nI a - nI b).toInt = (a : Int) - (b : Int) := pk_sub_toInt (by omega) (by omega)
  rw [h, Int32.toInt_zero] at hd
  have : a = b := by omega
  rw [this]
theorem cmp_byte {x y : jv} {k : Nat} (hx : vok 2 x) (hy : vok 2 y) (h1 : k < x.2.2.length) (h2 : k < y.2.2.length) (htc : tc (x.2.2.drop k) (y.2.2.drop k) = tc x.2.2 y.2.2) (h : ¬ nI (x.2.2.getD k 0) = nI (y.2.2.getD k 0)) : sgb (nI (x.2.2.getD k 0) - nI (y.2.2.getD k 0)) (vc x y) := by
  have b1 := hx.2.2.2.2 k h1
  have b2 := hy.2.2.2.2 k h2
  have hd : (nI (x.2.2.getD k 0) - nI (y.2.2.getD k 0)).toInt = (x.2.2.getD k 0 : Int) - (y.2.2.getD k 0 : Int) := pk_sub_toInt (by omega) (by omega)
  exact ⟨order_byte h1 h2 b1 b2 htc (fun z => h (cmp_sub b1 b2 z)), by rw [hd]; omega, by rw [hd]; omega⟩
theorem cmp_next {x y : jv} {k : Nat} (hx : vok 2 x) (hy : vok 2 y) (h1 : k < x.2.2.length) (h2 : k < y.2.2.length) (htc : tc (x.2.2.drop k) (y.2.2.drop k) = tc x.2.2 y.2.2) (h : nI (x.2.2.getD k 0) = nI (y.2.2.getD k 0)) : tc (x.2.2.drop (k + 1)) (y.2.2.drop (k + 1)) = tc x.2.2 y.2.2 :=
  order_next h1 h2 (hx.2.2.2.2 k h1) (hy.2.2.2.2 k h2) htc (by rw [h]; exact Int32.sub_self _)
theorem cmp_0 {t : Int32} {x y : jv} (ht : ¬ t = 2) (hx : vok t x) (hy : vok t y) : tc x.2.2 y.2.2 = 0 := by
  rw [hx.2.2.1 ht, hy.2.2.1 ht]; rfl
theorem tc_swap : ∀ s t : List Nat, tc t s = - tc s t
  | [], [] => rfl
  | [], _ :: _ => rfl
  | _ :: _, [] => rfl
  | a :: s, b :: t => by
    simp only [tc]
    have ih := tc_swap s t
    by_cases h : a < b <;> by_cases h2 : b < a <;> simp only [h, h2, ↓reduceIte] <;> omega
theorem tc_eq : ∀ {s t : List Nat}, tc s t = 0 → s = t
  | [], [], _ => rfl
  | [], _ :: _, h => by simp [tc] at h
  | _ :: _, [], h => by simp [tc] at h
  | a :: s, b :: t, h => by
    simp only [tc] at h
    by_cases h1 : a < b
    · rw [if_pos h1] at h; simp at h
    · by_cases h2 : b < a
      · rw [if_neg h1, if_pos h2] at h; simp at h
      · rw [if_neg h1, if_neg h2] at h
        have e : a = b := by omega
        rw [e, tc_eq h]
theorem tc_self (s : List Nat) : tc s s = 0 := by have := tc_swap s s; omega
theorem vc_swap (x y : jv) : vc y x = - vc x y := by
  unfold vc
  rw [tc_swap x.2.2 y.2.2]
  by_cases h : tc x.2.2 y.2.2 = 0
  · rw [if_pos (by omega), if_pos h]
    have h3 : ¬ (x.2.1 < y.2.1 ∧ y.2.1 < x.2.1) := by rw [Int64.lt_iff_toInt_lt, Int64.lt_iff_toInt_lt]; omega
    by_cases h1 : x.2.1 < y.2.1 <;> by_cases h2 : y.2.1 < x.2.1 <;> simp only [h1, h2, ↓reduceIte]
    · exact absurd ⟨h1, h2⟩ h3
    all_goals rfl
  · rw [if_neg (by omega), if_neg h]
theorem vc_eq {x y : jv} (h : vc x y = 0) : x.2 = y.2 := by
  unfold vc at h
  by_cases h1 : tc x.2.2 y.2.2 = 0
  · rw [if_pos h1] at h
    have h2 := tc_eq h1
    by_cases h3 : x.2.1 < y.2.1
    · rw [if_pos h3] at h; simp at h
    · by_cases h4 : y.2.1 < x.2.1
      · rw [if_neg h3, if_pos h4] at h; simp at h
      · have h5 : x.2.1 = y.2.1 := by
          rw [Int64.lt_iff_toInt_lt] at h3 h4
          exact Int64.toInt_inj.mp (by omega)
        exact Prod.ext h5 h2
  · rw [if_neg h1] at h; exact absurd h h1
theorem vc_congr {x y z : jv} (h : vc x y = 0) : vc x z = vc y z := by
  have e := vc_eq h
  unfold vc
  rw [e]
theorem vc_self (x : jv) : vc x x = 0 := by have := vc_swap x x; omega
/-- truths: 0 to 7 -/
theorem aS_fl : ∀ a, a < 8 → ∀ b, b < 8 → ∀ u : Bool, u = ((decide (0 < nI a &&& 4) && decide (0 < nI b &&& 6)) || (decide (0 < nI b &&& 4) && decide (0 < nI a &&& 6))) → (nI a &&& nI b &&& 2) + ((nI a ||| nI b) &&& 1) + (bif u then 4 else 0) = aS (nI a) (nI b) := by decide +kernel
theorem nS_fl : ∀ a, a < 8 → (nI a &&& 4) + (bif decide (0 < nI a &&& 1) then 2 else 0) + (bif decide (0 < nI a &&& 2) then 1 else 0) = nS (nI a) := by decide +kernel
theorem oS_fl : ∀ a, a < 8 → ∀ b, b < 8 → nS (aS (nS (nI a)) (nS (nI b))) = oS (nI a) (nI b) := by decide +kernel
theorem nS_8 : ∀ a, a < 8 → ∃ b, b < 8 ∧ nS (nI a) = nI b := by decide +kernel
theorem aS_8 : ∀ a, a < 8 → ∀ b, b < 8 → ∃ c, c < 8 ∧ aS (nI a) (nI b) = nI c := by decide +kernel
theorem oS_8 : ∀ a, a < 8 → ∀ b, b < 8 → ∃ c, c < 8 ∧ oS (nI a) (nI b) = nI c := by decide +kernel
theorem trS_8 : ∀ a b c : Bool, ∃ n, n < 8 ∧ trS a b c = nI n := by decide +kernel
theorem ci_none {s : jS} {x : Int32} (h : bI (cix s x).isSome = 0) : cix s x = none := by
  rw [bI_0] at h
  cases hc : cix s x with
  | none => rfl
  | some c => rw [hc] at h; cases h
theorem ci_some {s : jS} {x : Int32} (h : ¬ bI (cix s x).isSome = 0) : ∃ c, cix s x = some c := by
  cases hc : cix s x with
  | none => rw [hc] at h; exact absurd rfl h
  | some c => exact ⟨c, rfl⟩
