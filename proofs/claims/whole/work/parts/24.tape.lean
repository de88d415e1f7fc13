/-! The tape's bytes; literals; steps as a condition. -/
abbrev tFs (ac : Nat) (cc1 : Int32) (at1 : Nat) (tn : Int32) (al : Nat) (ln : Int32) (as1 : Nat) (sn : Int32) (aw ar : Nat) (zn : Int32) (au : Nat) (un : Int32) : List Value := [.ref ac, .int cc1, .ref at1, .int tn, .ref al, .int ln, .ref as1, .int sn, .ref aw, .ref ar, .int zn, .ref au, .int un]
def fitB8 (f : Nat → Int32) : Prop := ∀ j, fits .byte (.int (f j)) = true
-- the next row is kit/laws/BITS.to-paste's bp_b
theorem bp_b (x : Int32) : x.toInt8.toInt32 &&& 255 = x &&& 255 := by
  apply Int32.toBitVec_inj.mp
  rw [Int32.toBitVec_and, Int32.toBitVec_and, Int8.toBitVec_toInt32, Int32.toBitVec_toInt8]
  apply BitVec.eq_of_getLsbD_eq
  intro i hi
  rw [BitVec.getLsbD_and, BitVec.getLsbD_and]
  have hm : ∀ i < 32, 8 ≤ i → (255 : Int32).toBitVec.getLsbD i = false := by decide
  rcases Nat.lt_or_ge i 8 with z | z
  · rw [BitVec.getLsbD_signExtend, BitVec.getLsbD_signExtend, if_pos z, if_pos hi]
    simp only [z, hi, decide_true, Bool.true_and]
  · rw [hm i hi z]; simp
theorem ub_8 (z : Int32) : ub z.toInt8.toInt32 = ub z := by
  have h := bp_b z
  rw [ub_and, ub_and] at h
  have h1 := ub_lt z.toInt8.toInt32
  have h2 := ub_lt z
  exact (nI_eq (by omega) (by omega)).mp h
/-- the k-th byte of four -/
def byt (x : Int32) (k : Nat) : Nat := x.toBitVec.toNat / 2 ^ (24 - 8 * k) % 256
def shf : Nat → Int32
  | 0 => 24
  | 1 => 16
  | 2 => 8
  | 3 => 0
  | _ => -8
theorem shf_lt : ∀ k, k < 4 → ¬ shf k < 0 := by decide
theorem shf_next : ∀ k, k < 4 → shf k + (-8) = shf (k + 1) := by decide
theorem shf_am : ∀ k, k < 4 → (((shf k).toUInt32 &&& Int32.toUInt32 31).toBitVec % 32).toNat = 24 - 8 * k := by decide
theorem byt_at {x : Int32} {k : Nat} (hk : k < 4) : ub (vp_nar .byte ((x.toUInt32 >>> ((shf k).toUInt32 &&& Int32.toUInt32 31)).toInt32.toInt8.toInt32)) = byt x k := by
  rw [pk_vb, ub_8]
  unfold ub byt
  rw [pk_ushr x (shf k) (24 - 8 * k) (shf_am k hk)]
theorem fit_at (z : Int32) : fits .byte (.int (vp_nar .byte z.toInt8.toInt32)) = true := by rw [pk_vb]; exact pk_fb z
def tyAll (ty : Int32) (lit : Nat → jv) (p : Nat) : Nat → Bool
  | 0 => true
  | m + 1 => tyAll ty lit p m && decide ((lit (p + m)).1 = ty)
theorem tyAll_f {ty : Int32} {lit : Nat → jv} {p i : Nat} (h : ¬ (lit (p + i)).1 = ty) : ∀ {m : Nat}, i < m → tyAll ty lit p m = false
  | 0, q => by omega
  | m + 1, q => by
    by_cases hi : i = m
    · subst hi; simp [tyAll, h]
    · simp [tyAll, tyAll_f h (m := m) (by omega)]
theorem tyAll_n {ty : Int32} {lit : Nat → jv} {p i : Nat} (h : tyAll ty lit p i = true) (h2 : (lit (p + i)).1 = ty) : tyAll ty lit p (i + 1) = true := by simp [tyAll, h, h2]
/-- m literals from p on are there, of a type -/
def aLt (ty p m : Int32) (ln : Nat) (lit : Nat → jv) : Bool := if 0 ≤ p.toInt ∧ 1 ≤ m.toInt ∧ p.toInt + m.toInt ≤ ln then tyAll ty lit p.toNatClampNeg m.toNatClampNeg else false
def tkN (kd : Int32) : Nat := if kd < 5 then 0 else if kd = 5 then 1 else 2
theorem tk_I (kd : Int32) : tkI kd = nI (tkN kd) := by
  unfold tkI tkN
  by_cases h : kd < 5
  · rw [if_pos h, if_pos h]; rfl
  · rw [if_neg h, if_neg h]
    by_cases h2 : kd = 5
    · rw [if_pos h2, if_pos h2]; rfl
    · rw [if_neg h2, if_neg h2]; rfl
theorem tk_2 (kd : Int32) : tkN kd ≤ 2 := by
  unfold tkN
  split
  · omega
  · split <;> omega
/-- how many wait behind n steps -/
def wN (kd : Nat → Int32) : Nat → Option Nat
  | 0 => some 0
  | n + 1 => match wN kd n with
    | none => none
    | some c => if c < tkN (kd n) then none else some (c + 1 - tkN (kd n))
theorem wN_le {kd : Nat → Int32} : ∀ {n c : Nat}, wN kd n = some c → c ≤ n
  | 0, c, h => by simp [wN] at h; omega
  | n + 1, c, h => by
    cases hw : wN kd n with
    | none => simp [wN, hw] at h
    | some d =>
      have h1 := wN_le hw
      simp only [wN, hw] at h
      split at h
      · cases h
      · cases h
        have := tk_2 (kd n)
        omega
theorem wN_none {kd : Nat → Int32} {n : Nat} (h : wN kd n = none) : ∀ m, wN kd (n + m) = none
  | 0 => h
  | m + 1 => by
    have := wN_none h m
    show wN kd ((n + m) + 1) = none
    simp [wN, this]
theorem wN_bad {kd : Nat → Int32} {n c : Nat} (h : wN kd n = some c) (h2 : c < tkN (kd n)) : wN kd (n + 1) = none := by simp [wN, h, h2]
theorem wN_ok {kd : Nat → Int32} {n c : Nat} (h : wN kd n = some c) (h2 : ¬ c < tkN (kd n)) : wN kd (n + 1) = some (c + 1 - tkN (kd n)) := by simp only [wN, h, if_neg h2]
def isCnd (kd : Nat → Int32) (n : Nat) : Bool := decide (n = 0) || decide (wN kd n = some 1)
/-- every step's columns have n rows -/
def sHR (c1 : Nat → Option Nat) (r1 : Nat → Nat) (c2 : Nat → Option Nat) (r2 : Nat → Nat) (n : Nat) : Nat → Bool
  | 0 => true
  | i + 1 => sHR c1 r1 c2 r2 n i && (decide (c1 i = none) || decide (n ≤ r1 i)) && (decide (c2 i = none) || decide (n ≤ r2 i))
theorem sHR_f {c1 : Nat → Option Nat} {r1 : Nat → Nat} {c2 : Nat → Option Nat} {r2 : Nat → Nat} {n i : Nat} (h : (¬ c1 i = none ∧ ¬ n ≤ r1 i) ∨ (¬ c2 i = none ∧ ¬ n ≤ r2 i)) : ∀ {m : Nat}, i < m → sHR c1 r1 c2 r2 n m = false
  | 0, q => by omega
  | m + 1, q => by
    by_cases hi : i = m
    · subst hi
      rcases h with h | h <;> simp [sHR, h.1, h.2]
    · simp [sHR, sHR_f h (m := m) (by omega)]
theorem sHR_n {c1 : Nat → Option Nat} {r1 : Nat → Nat} {c2 : Nat → Option Nat} {r2 : Nat → Nat} {n i : Nat} (h : sHR c1 r1 c2 r2 n i = true) (h1 : c1 i = none ∨ n ≤ r1 i) (h2 : c2 i = none ∨ n ≤ r2 i) : sHR c1 r1 c2 r2 n (i + 1) = true := by
  rcases h1 with h1 | h1 <;> rcases h2 with h2 | h2 <;> simp [sHR, h, h1, h2]
