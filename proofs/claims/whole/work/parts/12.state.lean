/-! What methods of the class answer, in pure words. -/
def amg (x : jv) (g : Nat → jv) (p : Nat) : Nat → Bool
  | 0 => false
  | m + 1 => amg x g p m || decide (vc x (g (p + m)) = 0)
theorem amg_true {x : jv} {g : Nat → jv} {p i : Nat} : ∀ {m : Nat}, i < m → vc x (g (p + i)) = 0 → amg x g p m = true
  | 0, h, _ => by omega
  | m + 1, h, e => by
    by_cases hi : i = m
    · subst hi
      simp [amg, e]
    · have := amg_true (m := m) (by omega) e
      simp [amg, this]
theorem amg_next {x : jv} {g : Nat → jv} {p i : Nat} (h : amg x g p i = false) (e : ¬ vc x (g (p + i)) = 0) : amg x g p (i + 1) = false := by simp [amg, h, e]
/-- the x-th of rc things, or none -/
def vAt (f : Nat → Option Nat) (rc : Nat) (x : Int32) : Option Nat := if x < 0 ∨ ¬ x < nI rc then none else f x.toNatClampNeg
theorem vAt_out {f : Nat → Option Nat} {rc : Nat} {x : Int32} (h : x < 0 ∨ ¬ x < nI rc) : va_rf (vAt f rc x) = .null := by
  unfold vAt
  rw [if_pos h]
  rfl
theorem vAt_in {f : Nat → Option Nat} {rc : Nat} {x : Int32} (h1 : ¬ x < 0) (h2 : x < nI rc) : va_rf (vAt f rc x) = va_rf (f x.toNatClampNeg) := by
  unfold vAt
  rw [if_neg (fun h => h.elim h1 (fun q => q h2))]
/-- how many that wait a step of a kind takes -/
def tkI (kd : Int32) : Int32 := if kd < 5 then 0 else if kd = 5 then 1 else 2
/-- an operator over the order of two values -/
def hV (op : Int32) (c : Int) : Bool := if op = 0 then decide (c = 0) else if op = 1 then decide (¬ c = 0) else if op = 2 then decide (c < 0) else if op = 3 then decide (c ≤ 0) else if op = 4 then decide (0 < c) else decide (0 ≤ c)
theorem hO_sg {op i : Int32} {c : Int} (h : sg i c) : hO op i = hV op c := by
  unfold hO hV
  simp only [h.1, h.2, sg_le h, sg_gt h, sg_ge h]
def cH (op : Int32) (lo hi lo2 hi2 : jv) : Bool := if op = 0 then decide (0 ≤ vc hi lo2) && decide (0 ≤ vc hi2 lo) else if op = 1 then decide (¬ vc lo hi2 = 0) || decide (¬ vc hi lo2 = 0) else if op = 2 then hV op (vc lo hi2) else if op = 3 then hV op (vc lo hi2) else hV op (vc hi lo2)
def mH (x lo hi : jv) (ec : Nat) (ef : Nat → jv) : Bool := if 0 < ec then amg x ef 0 ec else decide (0 ≤ vc x lo) && decide (vc x hi ≤ 0)
/-- a column's fields -/
abbrev kFs (ty : Int32) (ra : Nat) (rc tb kn kr km : Int32) (lo hi : Option Nat) (ea : Nat) (ec : Int32) (sa : Nat) : List Value := [.int ty, .ref ra, .int rc, .int tb, .int kn, .int kr, .int km, va_rf lo, va_rf hi, .ref ea, .int ec, .ref sa]
/-- what is known of a column: least, greatest, dictionary -/
def isK (G : jG) (w : jw) (a : Nat) (lo hi : jv) (ec : Nat) (ef : Nat → jv) : Prop := ∃ (ty : Int32) (ra : Nat) (rc tb kn kr km : Int32) (lA hA ea : Nat) (fe : Nat → Option Nat) (sa : Nat), jh w a (eO cC (kFs ty ra rc tb kn kr km (some lA) (some hA) ea (nI ec) sa)) ∧ isV G w lA lo ∧ isV G w hA hi ∧ jh w ea (eR G 5 100 fe) ∧ ec ≤ 100 ∧ ∀ j, j < ec → ∃ b, fe j = some b ∧ isV G w b (ef j)
theorem z_lt {a b : Int} : (a < b) = ¬ b ≤ a := propext Int.not_le.symm
/-- literals of a step: m from p on -/
def isL (G : jG) (w : jw) (al : Nat) (lit : Nat → jv) (p m : Nat) : Prop := ∃ f, jh w al (eR G 5 64 f) ∧ p + m ≤ 64 ∧ ∀ j, p ≤ j → j < p + m → ∃ b, f j = some b ∧ isV G w b (lit j)
/-- some of the first m literals is one that may be -/
def inK (lit : Nat → jv) (p : Nat) (lo hi : jv) (ec : Nat) (ef : Nat → jv) : Nat → Bool
  | 0 => false
  | m + 1 => inK lit p lo hi ec ef m || mH (lit (p + m)) lo hi ec ef
theorem inK_true {lit : Nat → jv} {p : Nat} {lo hi : jv} {ec : Nat} {ef : Nat → jv} {i : Nat} : ∀ {m : Nat}, i < m → mH (lit (p + i)) lo hi ec ef = true → inK lit p lo hi ec ef m = true
  | 0, h, _ => by omega
  | m + 1, h, e => by
    by_cases hi : i = m
    · subst hi
      simp [inK, e]
    · have := inK_true (m := m) (by omega) e
      simp [inK, this]
theorem inK_next {lit : Nat → jv} {p : Nat} {lo hi : jv} {ec : Nat} {ef : Nat → jv} {i : Nat} (h : inK lit p lo hi ec ef i = false) (e : mH (lit (p + i)) lo hi ec ef = false) : inK lit p lo hi ec ef (i + 1) = false := by simp [inK, h, e]
/-- some of the first n words is none of the literals -/
def outE (lit : Nat → jv) (p m : Nat) (ef : Nat → jv) : Nat → Bool
  | 0 => false
  | n + 1 => outE lit p m ef n || !amg (ef n) lit p m
theorem outE_true {lit : Nat → jv} {p m : Nat} {ef : Nat → jv} {i : Nat} : ∀ {n : Nat}, i < n → amg (ef i) lit p m = false → outE lit p m ef n = true
  | 0, h, _ => by omega
  | n + 1, h, e => by
    by_cases hi : i = n
    · subst hi
      simp [outE, e]
    · have := outE_true (n := n) (by omega) e
      simp [outE, this]
theorem outE_next {lit : Nat → jv} {p m : Nat} {ef : Nat → jv} {i : Nat} (h : outE lit p m ef i = false) (e : amg (ef i) lit p m = true) : outE lit p m ef (i + 1) = false := by simp [outE, h, e]
def outK (lit : Nat → jv) (p m : Nat) (lo hi : jv) (ec : Nat) (ef : Nat → jv) : Bool := if ec = 0 then decide (¬ vc lo hi = 0) || !amg lo lit p m else outE lit p m ef ec
theorem outK_0 {lit : Nat → jv} {p m : Nat} {lo hi : jv} {ec : Nat} {ef : Nat → jv} (h : ec = 0) : outK lit p m lo hi ec ef = (decide (¬ vc lo hi = 0) || !amg lo lit p m) := by unfold outK; rw [if_pos h]
theorem outK_e {lit : Nat → jv} {p m : Nat} {lo hi : jv} {ec : Nat} {ef : Nat → jv} (h : 0 < ec) : outK lit p m lo hi ec ef = outE lit p m ef ec := by unfold outK; rw [if_neg (by omega)]
/-- some of the first n words stands so to x -/
def anH (op : Int32) (ef : Nat → jv) (x : jv) : Nat → Bool
  | 0 => false
  | n + 1 => anH op ef x n || hV op (vc (ef n) x)
theorem anH_true {op : Int32} {ef : Nat → jv} {x : jv} {i : Nat} : ∀ {n : Nat}, i < n → hV op (vc (ef i) x) = true → anH op ef x n = true
  | 0, h, _ => by omega
  | n + 1, h, e => by
    by_cases hi : i = n
    · subst hi
      simp [anH, e]
    · have := anH_true (n := n) (by omega) e
      simp [anH, this]
theorem anH_next {op : Int32} {ef : Nat → jv} {x : jv} {i : Nat} (h : anH op ef x i = false) (e : hV op (vc (ef i) x) = false) : anH op ef x (i + 1) = false := by simp [anH, h, e]
def cmL (op : Int32) (lo hi : jv) (ec : Nat) (ef : Nat → jv) (x : jv) : Bool := if ec = 0 then cH op lo hi x x else anH op ef x ec
theorem cmL_0 {op : Int32} {lo hi : jv} {ec : Nat} {ef : Nat → jv} {x : jv} (h : ec = 0) : cmL op lo hi ec ef x = cH op lo hi x x := by unfold cmL; rw [if_pos h]
theorem cmL_e {op : Int32} {lo hi : jv} {ec : Nat} {ef : Nat → jv} {x : jv} (h : 0 < ec) : cmL op lo hi ec ef x = anH op ef x ec := by unfold cmL; rw [if_neg (by omega)]
/-- a reference that is null or a value -/
def isO (G : jG) (w : jw) (r : Option Nat) (x : Option jv) : Prop := match r with
  | none => x = none
  | some a => ∃ v, x = some v ∧ isV G w a v
/-- row r1 of a column is there; f: its rows -/
def isR (G : jG) (w : jw) (a r1 : Nat) (f : Nat → Option Nat) : Prop := ∃ (fs : List Value) (ra rc : Nat), jh w a (eO cC fs) ∧ fs[1]? = some (.ref ra) ∧ fs[2]? = some (.int (nI rc)) ∧ jh w ra (eR G 5 1000 f) ∧ r1 < rc ∧ rc ≤ 1000
theorem vAt_nI {f : Nat → Option Nat} {rc i : Nat} (h : i < rc) (hc : rc ≤ 1000) : vAt f rc (nI i) = f i := by
  unfold vAt
  rw [if_neg (fun q => q.elim (nI_pos (by omega)) (fun q => q (nI_lt h (by omega)))), nI_clamp (by omega)]
/-- what is known of a column, for 'can' -/
def isM (G : jG) (w : jw) (a : Nat) (kn : Bool) (kr km : Int32) (lo hi : jv) (ec : Nat) (ef : Nat → jv) : Prop := ∃ (ty : Int32) (ra : Nat) (rc tb : Int32) (lA hA : Option Nat) (ea : Nat) (eI1 : Int32) (sa : Nat), jh w a (eO cC (kFs ty ra rc tb (bI kn) kr km lA hA ea eI1 sa)) ∧ (kn = true → km < kr → lA.isSome = true ∧ hA.isSome = true ∧ isK G w a lo hi ec ef)
theorem isM_sm {kr km : Int32} {lA hA : Option Nat} (h : km < kr → lA.isSome = true ∧ hA.isSome = true) : (decide (km < kr) && lA.isSome && hA.isSome) = decide (km < kr) := by
  by_cases q : km < kr
  · obtain ⟨h1, h2⟩ := h q
    simp [q, h1, h2]
  · simp [q]
