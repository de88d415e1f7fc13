/-! Pure words for the reference's questions. -/
theorem mH_cmL {x lo hi : jv} {ec : Nat} {ef : Nat → jv} : mH x lo hi ec ef = cmL 0 lo hi ec ef x := by
  unfold mH cmL
  by_cases h : 0 < ec
  · rw [if_pos h, if_neg (by omega)]
    clear h
    induction ec with
    | zero => rfl
    | succ n ih =>
      simp only [amg, anH, ih, Nat.zero_add]
      congr 1
      have e := vc_swap x (ef n)
      simp only [hV, if_true]
      by_cases z : vc x (ef n) = 0
      · simp [z, show vc (ef n) x = 0 by omega]
      · simp [z, show ¬ vc (ef n) x = 0 by omega]
  · rw [if_neg h, if_pos (by omega)]
    have e := vc_swap x hi
    unfold cH
    simp only [if_true]
    rw [Bool.and_comm]
    congr 1
    by_cases z : vc x hi ≤ 0
    · simp [z, show 0 ≤ vc hi x by omega]
    · simp [z, show ¬ 0 ≤ vc hi x by omega]
theorem op_cases {op : Int32} (h1 : ¬ op < 0) (h2 : op ≤ 5) : op = 0 ∨ op = 1 ∨ op = 2 ∨ op = 3 ∨ op = 4 ∨ op = 5 := by
  obtain ⟨j, hj, rfl⟩ := nI_of h1
  have h3 : j ≤ 5 := (nI_leI (b := 5) hj (by omega)).mp h2
  rcases (show j = 0 ∨ j = 1 ∨ j = 2 ∨ j = 3 ∨ j = 4 ∨ j = 5 by omega) with rfl | rfl | rfl | rfl | rfl | rfl
  · exact Or.inl rfl
  · exact Or.inr (Or.inl rfl)
  · exact Or.inr (Or.inr (Or.inl rfl))
  · exact Or.inr (Or.inr (Or.inr (Or.inl rfl)))
  · exact Or.inr (Or.inr (Or.inr (Or.inr (Or.inl rfl))))
  · exact Or.inr (Or.inr (Or.inr (Or.inr (Or.inr rfl))))
theorem cO_5 {op : Int32} (h1 : ¬ op < 0) (h2 : op ≤ 5) : ¬ cO op < 0 ∧ cO op ≤ 5 := by
  rcases op_cases h1 h2 with rfl | rfl | rfl | rfl | rfl | rfl <;> decide
/-- how two spans meet, out of the signs of low and high -/
theorem cH_of {op z1 z2 : Int32} {lo hi lo2 hi2 : jv} (h1 : ¬ op < 0) (h2 : op ≤ 5) (s1 : sgb z1 (vc lo hi2)) (s2 : sgb z2 (vc hi lo2)) : cH op lo hi lo2 hi2 = if op = 0 then decide (z1 ≤ 0) && decide (0 ≤ z2) else if op = 1 then decide (¬ z1 = 0) || decide (¬ z2 = 0) else hO op (if 4 ≤ op then z2 else z1) := by
  have e := vc_swap lo hi2
  have a1 := sg_le s1.1
  have a2 := sg_ge s2.1
  have a3 := s1.1.2
  have a4 := s2.1.2
  rcases op_cases h1 h2 with rfl | rfl | rfl | rfl | rfl | rfl
  · simp only [cH, if_true, a1, a2, e]
    rw [Bool.and_comm]
    congr 1
    by_cases z : vc lo hi2 ≤ 0
    · simp [z, show 0 ≤ - vc lo hi2 by omega]
    · simp [z, show ¬ 0 ≤ - vc lo hi2 by omega]
  · simp [cH, a3, a4]
  · rw [hO_sg (c := vc lo hi2) (by exact s1.1)]; rfl
  · rw [hO_sg (c := vc lo hi2) (by exact s1.1)]; rfl
  · rw [hO_sg (c := vc hi lo2) (by exact s2.1)]; rfl
  · rw [hO_sg (c := vc hi lo2) (by exact s2.1)]; rfl
theorem trS_sum : ∀ a b c : Bool, trS a b c = (bif c then 4 else 0) + (bif b then 2 else 0) + (bif a then 1 else 0) := by decide +kernel
theorem anH_0 {op : Int32} {ef : Nat → jv} {x : jv} {n : Nat} (h : anH op ef x n = true) : anH op ef x (n + 1) = true := by simp [anH, h]
theorem amg_0 {x : jv} {g : Nat → jv} {p n : Nat} (h : amg x g p n = true) : amg x g p (n + 1) = true := by simp [amg, h]
theorem outE_0 {lit : Nat → jv} {p m : Nat} {ef : Nat → jv} {n : Nat} (h : outE lit p m ef n = true) : outE lit p m ef (n + 1) = true := by simp [outE, h]
theorem inK_0 {lit : Nat → jv} {p : Nat} {lo hi : jv} {ec : Nat} {ef : Nat → jv} {n : Nat} (h : inK lit p lo hi ec ef n = true) : inK lit p lo hi ec ef (n + 1) = true := by simp [inK, h]
/-- facts of a step over literals -/
theorem st_2 {s : jS} {j : Nat} (hW : WF s) (hj : j < g_sn s) (hk : g_sk s j = 2) : g_sc s j < g_cc s ∧ ∃ P N, g_sp s j = nI P ∧ g_sm s j = nI N ∧ oP s j = P ∧ oM s j = N ∧ P + N ≤ g_ln s ∧ 1 ≤ N ∧ ∀ i, P ≤ i → i < P + N → (g_lit s i).1 = g_ty s (g_sc s j) := by
  obtain ⟨-, -, -, wln, -, -, -, -, wst, -⟩ := hW
  obtain ⟨-, h5, h2, -⟩ := wst j hj
  obtain ⟨P, N, e1, e2, h3, h4, h6⟩ := h2 hk
  exact ⟨h5 (by rw [hk]; decide), P, N, e1, e2, by unfold oP; rw [e1]; exact nI_clamp (by omega), by unfold oM; rw [e2]; exact nI_clamp (by omega), h3, h4, h6⟩
theorem st_3 {s : jS} {j : Nat} (hW : WF s) (hj : j < g_sn s) (hk : g_sk s j = 3) : g_sc s j < g_cc s ∧ (¬ g_so s j < 0 ∧ g_so s j ≤ 5) ∧ ∃ P, g_sp s j = nI P ∧ oP s j = P ∧ P < g_ln s ∧ (g_lit s P).1 = g_ty s (g_sc s j) := by
  obtain ⟨-, -, -, wln, -, -, -, -, wst, -⟩ := hW
  obtain ⟨-, h5, -, h2, -⟩ := wst j hj
  obtain ⟨⟨a, b⟩, P, e1, h3, h4⟩ := h2 hk
  exact ⟨h5 (by rw [hk]; decide), ⟨Int32.not_lt.mpr a, b⟩, P, e1, by unfold oP; rw [e1]; exact nI_clamp (by omega), h3, h4⟩
theorem st_4 {s : jS} {j : Nat} (hW : WF s) (hj : j < g_sn s) (hk : g_sk s j = 4) : g_sc s j < g_cc s ∧ (¬ g_so s j < 0 ∧ g_so s j ≤ 5) ∧ ∃ P, g_sp s j = nI P ∧ oP s j = P ∧ P < g_cc s ∧ g_ty s P = g_ty s (g_sc s j) := by
  obtain ⟨-, -, wcc, wln, -, -, -, -, wst, -⟩ := hW
  obtain ⟨-, h5, -, -, h2⟩ := wst j hj
  obtain ⟨⟨a, b⟩, P, e1, h3, h4⟩ := h2 hk
  exact ⟨h5 (by rw [hk]; decide), ⟨Int32.not_lt.mpr a, b⟩, P, e1, by unfold oP; rw [e1]; exact nI_clamp (by omega), h3, h4⟩
theorem moL_s {s : jS} {c : Nat} {p : jv × jv} (h : g_mo s c = some p) : moL s c = p.1 := by unfold moL; rw [h]; rfl
theorem moH_s {s : jS} {c : Nat} {p : jv × jv} (h : g_mo s c = some p) : moH s c = p.2 := by unfold moH; rw [h]; rfl
theorem sgb_lo {z : Int32} {v : Int} (h : sgb z v) : (-1) * z ≤ 0 ↔ ¬ v < 0 := by
  have h1 := h.1.1
  have h2 := h.2.1
  have h3 := h.2.2
  rw [Int32.lt_iff_toInt_lt, Int32.toInt_zero] at h1
  have e : ((-1) * z).toInt = - z.toInt := by
    rw [Int32.toInt_mul, show (-1 : Int32).toInt = -1 by decide, show -1 * z.toInt = - z.toInt by omega]
    exact Int.bmod_eq_of_le (by simp; omega) (by simp; omega)
  rw [Int32.le_iff_toInt_le, Int32.toInt_zero, e]
  omega
theorem sgb_hi {z : Int32} {v : Int} (h : sgb z v) : 1 * z ≤ 0 ↔ ¬ 0 < v := by
  have h1 := sg_gt h.1
  rw [Int32.one_mul, ← Int32.not_lt, h1]
/-- some of the first n rows is equal to x -/
def eqB (f : Nat → Option jv) (x : jv) : Nat → Bool
  | 0 => false
  | n + 1 => eqB f x n || (match f n with
    | none => false
    | some y => decide (vc y x = 0))
def fstR (f : Nat → Option jv) (r : Nat) : Bool := match f r with
  | none => false
  | some x => !eqB f x r
theorem eqB_n {f : Nat → Option jv} {x : jv} {n : Nat} (h : eqB f x n = false) (hf : f n = none) : eqB f x (n + 1) = false := by simp [eqB, h, hf]
theorem eqB_f {f : Nat → Option jv} {x y : jv} {n : Nat} (h : eqB f x n = false) (hf : f n = some y) (hv : ¬ vc y x = 0) : eqB f x (n + 1) = false := by simp [eqB, h, hf, hv]
theorem eqB_t {f : Nat → Option jv} {x y : jv} {n : Nat} (hf : f n = some y) (hv : vc y x = 0) : eqB f x (n + 1) = true := by simp [eqB, hf, hv]
theorem eqB_mono {f : Nat → Option jv} {x : jv} {a : Nat} (h : eqB f x a = true) : ∀ {b : Nat}, a ≤ b → eqB f x b = true
  | 0, q => by have e : a = 0 := by omega
               subst e; exact h
  | b + 1, q => by
    by_cases e : a = b + 1
    · subst e; exact h
    · simp [eqB, eqB_mono h (b := b) (by omega)]
theorem hs_some {s : jS} {c r : Nat} (h : ¬ bI (g_rf s c r).isSome = 0) : ∃ x, g_rf s c r = some x := by
  cases e : g_rf s c r with
  | none => rw [e] at h; exact absurd rfl h
  | some x => exact ⟨x, rfl⟩
theorem hs_none {s : jS} {c r : Nat} (h : bI (g_rf s c r).isSome = 0) : g_rf s c r = none := by
  cases e : g_rf s c r with
  | none => rfl
  | some x => rw [e] at h; exact absurd (show (1 : Int32) = 0 from h) (by decide)
theorem fin_a1 {z1 z2 : Int32} (h1 : ¬ 0 < z1) (h2 : ¬ z2 < 0) : bI (decide (z1 ≤ 0) && decide (0 ≤ z2)) = 1 := by
  rw [decide_eq_true (Int32.not_lt.mp h1), decide_eq_true (Int32.not_lt.mp h2)]; rfl
theorem fin_a2 {z1 z2 : Int32} (h1 : 0 < z1) : bI (decide (z1 ≤ 0) && decide (0 ≤ z2)) = 0 := by
  rw [decide_eq_false (Int32.not_le.mpr h1)]; rfl
theorem fin_a3 {z1 z2 : Int32} (h2 : z2 < 0) : bI (decide (z1 ≤ 0) && decide (0 ≤ z2)) = 0 := by
  rw [decide_eq_false (p := 0 ≤ z2) (Int32.not_le.mpr h2), Bool.and_false]; rfl
theorem fin_o1 {z1 z2 : Int32} (h1 : ¬ z1 = 0) : bI (decide (¬ z1 = 0) || decide (¬ z2 = 0)) = 1 := by
  rw [decide_eq_true h1]; rfl
theorem fin_o2 {z1 z2 : Int32} (h2 : ¬ z2 = 0) : bI (decide (¬ z1 = 0) || decide (¬ z2 = 0)) = 1 := by
  rw [decide_eq_true h2, Bool.or_true]; rfl
theorem fin_o3 {z1 z2 : Int32} (h1 : z1 = 0) (h2 : z2 = 0) : bI (decide (¬ z1 = 0) || decide (¬ z2 = 0)) = 0 := by
  rw [h1, h2]; rfl
theorem cAt_u0 {s : jS} {k : Nat} (h : g_sk s k = 0 ∨ g_sk s k = 1) (hn : g_kn s (g_sc s k) = false) : cAt s k = 3 := by
  unfold cAt
  rcases h with h | h <;> rw [h, hn] <;> rfl
theorem cAt_u2 {s : jS} {k : Nat} (h : g_sk s k = 2 ∨ g_sk s k = 3 ∨ g_sk s k = 4) (hn : g_kn s (g_sc s k) = false) : cAt s k = 7 := by
  unfold cAt
  rcases h with h | h | h <;> rw [h, hn] <;> rfl
theorem cAt_u4 {s : jS} {k : Nat} (h : g_sk s k = 4) (hn : g_kn s (oP s k) = false) : cAt s k = 7 := by
  unfold cAt
  rw [h, hn]
  cases g_kn s (g_sc s k) <;> rfl
theorem cAt_0 {s : jS} {k : Nat} (h : g_sk s k = 0) (hn : g_kn s (g_sc s k) = true) : cAt s k = trS (decide (g_km s (g_sc s k) < g_kr s (g_sc s k))) (decide (0 < g_km s (g_sc s k))) false := by
  unfold cAt; rw [h, hn]; rfl
theorem cAt_1 {s : jS} {k : Nat} (h : g_sk s k = 1) (hn : g_kn s (g_sc s k) = true) : cAt s k = nS (trS (decide (g_km s (g_sc s k) < g_kr s (g_sc s k))) (decide (0 < g_km s (g_sc s k))) false) := by
  unfold cAt; rw [h, hn]; rfl
theorem cAt_2 {s : jS} {k : Nat} (h : g_sk s k = 2) (hn : g_kn s (g_sc s k) = true) : cAt s k = bif decide (g_km s (g_sc s k) < g_kr s (g_sc s k)) then trS (outK (g_lit s) (oP s k) (oM s k) (moL s (g_sc s k)) (moH s (g_sc s k)) (g_ec s (g_sc s k)) (g_ef s (g_sc s k))) (inK (g_lit s) (oP s k) (moL s (g_sc s k)) (moH s (g_sc s k)) (g_ec s (g_sc s k)) (g_ef s (g_sc s k)) (oM s k)) (decide (0 < g_km s (g_sc s k))) else trS false false (decide (0 < g_km s (g_sc s k))) := by
  unfold cAt; rw [h, hn]; rfl
theorem cAt_3 {s : jS} {k : Nat} (h : g_sk s k = 3) (hn : g_kn s (g_sc s k) = true) : cAt s k = bif decide (g_km s (g_sc s k) < g_kr s (g_sc s k)) then trS (cmL (cO (g_so s k)) (moL s (g_sc s k)) (moH s (g_sc s k)) (g_ec s (g_sc s k)) (g_ef s (g_sc s k)) (g_lit s (oP s k))) (cmL (g_so s k) (moL s (g_sc s k)) (moH s (g_sc s k)) (g_ec s (g_sc s k)) (g_ef s (g_sc s k)) (g_lit s (oP s k))) (decide (0 < g_km s (g_sc s k))) else trS false false (decide (0 < g_km s (g_sc s k))) := by
  unfold cAt; rw [h, hn]; rfl
theorem cAt_4 {s : jS} {k : Nat} (h : g_sk s k = 4) (hn : g_kn s (g_sc s k) = true) (hn2 : g_kn s (oP s k) = true) : cAt s k = bif decide (g_km s (g_sc s k) < g_kr s (g_sc s k)) && decide (g_km s (oP s k) < g_kr s (oP s k)) then trS (cH (cO (g_so s k)) (moL s (g_sc s k)) (moH s (g_sc s k)) (moL s (oP s k)) (moH s (oP s k))) (cH (g_so s k) (moL s (g_sc s k)) (moH s (g_sc s k)) (moL s (oP s k)) (moH s (oP s k))) (decide (0 < g_km s (g_sc s k)) || decide (0 < g_km s (oP s k))) else trS false false (decide (0 < g_km s (g_sc s k)) || decide (0 < g_km s (oP s k))) := by
  unfold cAt; rw [h, hn, hn2]; rfl
