/-! A fresh object of the reference. -/
theorem jh_mem {w : jw} {a : Nat} {e : va_E} (h : jh w a e) : a ∈ w.1 := h.1
def IA (w : jw) (o : Nat) (L : List (Nat × va_E)) : Prop := (∀ p ∈ L, jh w p.1 p.2) ∧ (o :: L.map Prod.fst).Nodup
theorem IA.nil {w : jw} {o : Nat} : IA w o [] := ⟨fun _ h => absurd h List.not_mem_nil, by simp⟩
theorem IA.new {w w' : jw} {o a : Nat} {e eo : va_E} {L : List (Nat × va_E)} (h : IA w o L) (ho : jh w o eo) (hn : a ∉ w.1) (ha : jh w' a e) (f : ∀ b e, jh w b e → jh w' b e) : IA w' o ((a, e) :: L) := by
  obtain ⟨h1, h2⟩ := h
  refine ⟨fun p hp => ?_, ?_⟩
  · rcases List.mem_cons.mp hp with rfl | hp
    · exact ha
    · exact f _ _ (h1 p hp)
  · have h3 : a ≠ o := fun z => hn (z ▸ jh_mem ho)
    have h4 : a ∉ L.map Prod.fst := fun z => by
      obtain ⟨p, p1, p2⟩ := List.mem_map.mp z
      exact hn (p2 ▸ jh_mem (h1 p p1))
    simp only [List.map_cons, List.nodup_cons, List.mem_cons, not_or] at h2 ⊢
    exact ⟨⟨h3.symm, h2.1⟩, h4, h2.2⟩
theorem IA.put {w w' : jw} {o : Nat} {L : List (Nat × va_E)} (h : IA w o L) (f : ∀ b e, b ≠ o → jh w b e → jh w' b e) : IA w' o L := by
  obtain ⟨h1, h2⟩ := h
  refine ⟨fun p hp => f _ _ (fun z => ?_) (h1 p hp), h2⟩
  have h3 := (List.nodup_cons.mp h2).1
  exact h3 (List.mem_map.mpr ⟨p, hp, z⟩)
theorem nd_inj {L : List Nat} (h : L.Nodup) : ∀ i j, i < L.length → j < L.length → L.getD i 0 = L.getD j 0 → i = j := by
  intro i j hi hj e
  rw [List.getD_eq_getElem?_getD, List.getD_eq_getElem?_getD, List.getElem?_eq_getElem hi, List.getElem?_eq_getElem hj, Option.getD_some, Option.getD_some] at e
  have h1 := List.pairwise_iff_getElem.mp h
  rcases Nat.lt_trichotomy i j with q | q | q
  · exact absurd e (h1 i j hi hj q)
  · exact q
  · exact absurd e.symm (h1 j i hj hi q)
def sZ : jS := (0, fun _ => 0, 0, fun _ => 0, fun _ => 0, fun _ _ => none, fun _ => false, fun _ => 0, fun _ => 0, fun _ => none, fun _ => 0, fun _ _ => (0, 0, []), 0, fun _ => (0, 0, []), 0, fun _ => 0, fun _ => 0, fun _ => 0, fun _ => 0, fun _ => 0, 0, fun _ => 0)
def mZ : jM := (0, fun _ => 0, 0, fun _ => 0, fun _ => 0, fun _ => 0, fun _ => 0, fun _ => 0, fun _ => 0, fun _ => 0, fun _ => 0, fun _ => 0, fun _ => 0, fun _ => 0, fun _ => 0, fun _ => 0, 0, 0, 0, fun _ => 0, fun _ => 0, fun _ => 0, fun _ => 0, fun _ => 0, fun _ => 0, fun _ => 0, fun _ => 0, 0)
theorem relM_Z : relM sZ mZ := ⟨⟨rfl, fun j hj => absurd hj (Nat.not_lt_zero _)⟩, ⟨rfl, rfl, rfl, rfl⟩, fun c hc => absurd hc (Nat.not_lt_zero _), fun c _ _ => ⟨rfl, rfl, rfl⟩, fun c _ _ r _ => rfl, fun k hk => absurd hk (Nat.not_lt_zero _), fun j hj => absurd hj (Nat.not_lt_zero _), fun r hr => absurd hr (Nat.not_lt_zero _)⟩
theorem WF_Z : WF sZ := ⟨Nat.zero_le _, fun j hj => absurd hj (Nat.not_lt_zero _), Nat.zero_le _, Nat.zero_le _, Nat.zero_le _, Nat.zero_le _, fun c hc => absurd hc (Nat.not_lt_zero _), fun k hk => absurd hk (Nat.not_lt_zero _), fun j hj => absurd hj (Nat.not_lt_zero _), fun r hr => absurd hr (Nat.not_lt_zero _)⟩
