/-- the dictionary out of the first n rows -/
def dct (f : Nat → Option jv) (lo hi : jv) : Nat → Option (Nat × (Nat → jv))
  | 0 => some (0, fun _ => (0, 0, []))
  | n + 1 => match dct f lo hi n with
    | none => none
    | some (k, g) => match f n with
      | none => some (k, g)
      | some x => if amg x g 0 k = true then some (k, g) else if 100 ≤ k ∨ vc x lo < 0 ∨ 0 < vc x hi then none else some (k + 1, va_up g k x)
theorem dct_no {f : Nat → Option jv} {lo hi : jv} {n k : Nat} {g : Nat → jv} (h : dct f lo hi n = some (k, g)) (hf : f n = none) : dct f lo hi (n + 1) = some (k, g) := by simp [dct, h, hf]
theorem dct_in {f : Nat → Option jv} {lo hi : jv} {n k : Nat} {g : Nat → jv} {x : jv} (h : dct f lo hi n = some (k, g)) (hf : f n = some x) (ha : amg x g 0 k = true) : dct f lo hi (n + 1) = some (k, g) := by simp [dct, h, hf, ha]
theorem dct_bad {f : Nat → Option jv} {lo hi : jv} {n k : Nat} {g : Nat → jv} {x : jv} (h : dct f lo hi n = some (k, g)) (hf : f n = some x) (ha : amg x g 0 k = false) (hb : 100 ≤ k ∨ vc x lo < 0 ∨ 0 < vc x hi) : dct f lo hi (n + 1) = none := by simp [dct, h, hf, ha, hb]
theorem dct_add {f : Nat → Option jv} {lo hi : jv} {n k : Nat} {g : Nat → jv} {x : jv} (h : dct f lo hi n = some (k, g)) (hf : f n = some x) (ha : amg x g 0 k = false) (hb : ¬ (100 ≤ k ∨ vc x lo < 0 ∨ 0 < vc x hi)) : dct f lo hi (n + 1) = some (k + 1, va_up g k x) := by
  simp only [dct, h, hf, ha, if_neg hb]
  rfl
theorem dct_none {f : Nat → Option jv} {lo hi : jv} {n : Nat} (h : dct f lo hi n = none) : ∀ m, dct f lo hi (n + m) = none
  | 0 => h
  | m + 1 => by
    have := dct_none h m
    show dct f lo hi ((n + m) + 1) = none
    simp [dct, this]
def dcr (kn : Bool) (lo hi : Option jv) (f : Nat → Option jv) (n : Nat) : Option (Nat × (Nat → jv)) := match kn, lo, hi with
  | true, some l, some h => match dct f l h n with
    | some (k + 1, g) => some (k + 1, g)
    | _ => none
  | _, _, _ => none
theorem dcr_f {lo hi : Option jv} {f : Nat → Option jv} {n : Nat} : dcr false lo hi f n = none := rfl
theorem dcr_l {kn : Bool} {lo hi : Option jv} {f : Nat → Option jv} {n : Nat} (h : lo = none) : dcr kn lo hi f n = none := by subst h; cases kn <;> rfl
theorem dcr_h {kn : Bool} {lo hi : Option jv} {f : Nat → Option jv} {n : Nat} (h : hi = none) : dcr kn lo hi f n = none := by subst h; cases kn <;> cases lo <;> rfl
theorem dcr_n {l h : jv} {f : Nat → Option jv} {n : Nat} (e : dct f l h n = none) : dcr true (some l) (some h) f n = none := by simp [dcr, e]
theorem dcr_0 {l h : jv} {f : Nat → Option jv} {n : Nat} {g : Nat → jv} (e : dct f l h n = some (0, g)) : dcr true (some l) (some h) f n = none := by simp [dcr, e]
theorem dcr_s {l h : jv} {f : Nat → Option jv} {n k : Nat} {g : Nat → jv} (hk : 0 < k) (e : dct f l h n = some (k, g)) : dcr true (some l) (some h) f n = some (k, g) := by
  obtain ⟨k, rfl⟩ : ∃ j, k = j + 1 := ⟨k - 1, by omega⟩
  simp [dcr, e]
theorem mem_u {w w' : jw} {a : Nat} {x : va_E} (e : w' = ju w a x) : w'.1 = w.1 := by rw [e]; rfl
theorem mem_n {w w' : jw} {a : Nat} {x : va_E} (e : w' = jn w a x) : w'.1 = w.1 ++ [a] := by rw [e]; rfl
