/-! What methods of the class answer, in pure words. -/
def amg (x : jv) (g : Nat → jv) (p : Nat) : Nat → Bool
  | 0 => false
  | m + 1 => amg x g p m || decide (vc x (g (p + m)) = 0)
theorem amg_true {x : jv} {g : Nat → jv} {p i : Nat} : ∀ {m : Nat}, i < m → vc x (g (p + i)) = 0 → amg x g p m = true
  | 0, h, _ => by omega
  | m + 1, h, e => by
    by_cases hi : i = m
    · subst hi
      simp [amg, e]
    · have := amg_true (m := m) (by omega) e
      simp [amg, this]
theorem amg_next {x : jv} {g : Nat → jv} {p i : Nat} (h : amg x g p i = false) (e : ¬ vc x (g (p + i)) = 0) : amg x g p (i + 1) = false := by simp [amg, h, e]
/-- the x-th of rc things, or none -/
def vAt (f : Nat → Option Nat) (rc : Nat) (x : Int32) : Option Nat := if x < 0 ∨ ¬ x < nI rc then none else f x.toNatClampNeg
theorem vAt_out {f : Nat → Option Nat} {rc : Nat} {x : Int32} (h : x < 0 ∨ ¬ x < nI rc) : va_rf (vAt f rc x) = .null := by
  unfold vAt
  rw [if_pos h]
  rfl
theorem vAt_in {f : Nat → Option Nat} {rc : Nat} {x : Int32} (h1 : ¬ x < 0) (h2 : x < nI rc) : va_rf (vAt f rc x) = va_rf (f x.toNatClampNeg) := by
  unfold vAt
  rw [if_neg (fun h => h.elim h1 (fun q => q h2))]
/-- how many that wait a step of a kind takes -/
def tkI (kd : Int32) : Int32 := if kd < 5 then 0 else if kd = 5 then 1 else 2
