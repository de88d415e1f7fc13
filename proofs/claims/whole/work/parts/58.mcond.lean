/-! Truths lie in 0..7. -/
theorem bif_8 {b : Bool} : ∃ n, n < 8 ∧ (bif b then (2 : Int32) else 1) = nI n := by
  cases b
  · exact ⟨1, by omega, rfl⟩
  · exact ⟨2, by omega, rfl⟩
theorem tR_8 (kd op : Int32) (v1 v2 : Option jv) (lit : Nat → jv) (p m : Nat) : ∃ n, n < 8 ∧ tR kd op v1 v2 lit p m = nI n := by
  unfold tR
  by_cases h0 : kd = 0
  · rw [if_pos h0]
    by_cases h : v1 = none
    · rw [if_pos h]; exact ⟨2, by omega, rfl⟩
    · rw [if_neg h]; exact ⟨1, by omega, rfl⟩
  · rw [if_neg h0]
    by_cases h1 : kd = 1
    · rw [if_pos h1]
      by_cases h : v1 = none
      · rw [if_pos h]; exact ⟨1, by omega, rfl⟩
      · rw [if_neg h]; exact ⟨2, by omega, rfl⟩
    · rw [if_neg h1]
      by_cases h2 : kd = 2
      · rw [if_pos h2]
        cases v1 with
        | none => exact ⟨4, by omega, rfl⟩
        | some x => exact bif_8
      · rw [if_neg h2]
        by_cases h3 : kd = 3
        · rw [if_pos h3]
          cases v1 with
          | none => exact ⟨4, by omega, rfl⟩
          | some x => exact bif_8
        · rw [if_neg h3]
          cases v1 with
          | none => exact ⟨4, by omega, rfl⟩
          | some x =>
            cases v2 with
            | none => exact ⟨4, by omega, rfl⟩
            | some y => exact bif_8
theorem rAt_8 (s : jS) (e j : Nat) : ∃ n, n < 8 ∧ rAt s e j = nI n := tR_8 _ _ _ _ _ _ _
theorem bif_8' {b : Bool} {x y : Int32} (hx : ∃ n, n < 8 ∧ x = nI n) (hy : ∃ n, n < 8 ∧ y = nI n) : ∃ n, n < 8 ∧ (bif b then x else y) = nI n := by
  cases b
  · exact hy
  · exact hx
theorem cAt_8 (s : jS) (j : Nat) : ∃ n, n < 8 ∧ cAt s j = nI n := by
  unfold cAt tC1
  have h7 : ∃ n, n < 8 ∧ (7 : Int32) = nI n := ⟨7, by omega, rfl⟩
  have h3 : ∃ n, n < 8 ∧ (3 : Int32) = nI n := ⟨3, by omega, rfl⟩
  split
  · exact bif_8' (trS_8 _ _ _) h3
  · split
    · refine bif_8' ?_ h3
      obtain ⟨a, h1, h2⟩ := trS_8 (decide (g_km s (g_sc s j) < g_kr s (g_sc s j))) (decide (0 < g_km s (g_sc s j))) false
      rw [h2]
      exact nS_8 a h1
    · split
      · exact bif_8' (bif_8' (trS_8 _ _ _) (trS_8 _ _ _)) h7
      · split
        · exact bif_8' (bif_8' (trS_8 _ _ _) (trS_8 _ _ _)) h7
        · exact bif_8' (bif_8' (trS_8 _ _ _) (trS_8 _ _ _)) h7
theorem upd_8 {f : Nat → Int32} {k c : Nat} {x : Int32} (h : ∀ j, j < c → j ≠ k → ∃ n, n < 8 ∧ f j = nI n) (hx : ∃ n, n < 8 ∧ x = nI n) : ∀ j, j < c → ∃ n, n < 8 ∧ upd f k x j = nI n := by
  intro j hj
  by_cases q : j = k
  · subst q; rw [upd_self]; exact hx
  · rw [upd_ne q]; exact h j hj q
theorem stk_8 {at2 kd : Nat → Int32} (ha : ∀ j, ∃ n, n < 8 ∧ at2 j = nI n) : ∀ {i c : Nat}, wN kd i = some c → ∀ j, j < c → ∃ n, n < 8 ∧ stk at2 kd i j = nI n
  | 0, c, h, j, hj => by
    simp [wN] at h
    omega
  | i + 1, c, h, j, hj => by
    cases hw : wN kd i with
    | none => simp [wN, hw] at h
    | some d =>
      have ih := stk_8 ha hw
      have h1 : ¬ d < tkN (kd i) := fun z => by rw [wN_bad hw z] at h; cases h
      rw [wN_ok hw h1] at h
      cases h
      simp only [stk, hw, Option.getD_some]
      split
      · rename_i h0
        exact upd_8 (c := d + 1 - tkN (kd i)) (fun k hk hn => ih k (by omega)) (ha i) j hj
      · rename_i h0
        split
        · rename_i h2
          refine upd_8 (c := d + 1 - tkN (kd i)) (fun k hk hn => ih k (by omega)) ?_ j hj
          obtain ⟨a, a1, a2⟩ := ih (d - 1) (by omega)
          rw [a2]
          exact nS_8 a a1
        · rename_i h2
          have ht := tk_2 (kd i)
          obtain ⟨a, a1, a2⟩ := ih (d - 2) (by omega)
          obtain ⟨b, b1, b2⟩ := ih (d - 1) (by omega)
          split
          · refine upd_8 (c := d + 1 - tkN (kd i)) (fun k hk hn => ih k (by omega)) ?_ j hj
            rw [a2, b2]
            exact aS_8 a a1 b b1
          · refine upd_8 (c := d + 1 - tkN (kd i)) (fun k hk hn => ih k (by omega)) ?_ j hj
            rw [a2, b2]
            exact oS_8 a a1 b b1
theorem wN_up {kd : Nat → Int32} {i n c : Nat} (h : i < n) (hn : wN kd n = some c) {d : Nat} (hd : wN kd i = some d) : ¬ d < tkN (kd i) := fun z => by
  have h1 := wN_none (wN_bad hd z) (n - (i + 1))
  rw [show i + 1 + (n - (i + 1)) = n by omega, hn] at h1
  cases h1
