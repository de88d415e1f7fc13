/-! Values, their order, and what a world holds of them. -/
def ub (x : Int32) : Nat := x.toBitVec.toNat % 256
theorem ub_lt (x : Int32) : ub x < 256 := Nat.mod_lt _ (by decide)
theorem ub_and (x : Int32) : x &&& 255 = nI (ub x) := pk_and x 8 (by decide)
def tc : List Nat → List Nat → Int
  | [], [] => 0
  | [], _ :: _ => -1
  | _ :: _, [] => 1
  | a :: s, b :: t => if a < b then -1 else if b < a then 1 else tc s t
/-- a value: type, number, text -/
abbrev jv : Type := Int32 × Int64 × List Nat
def vc (x y : jv) : Int := if tc x.2.2 y.2.2 = 0 then (if x.2.1 < y.2.1 then -1 else if y.2.1 < x.2.1 then 1 else 0) else tc x.2.2 y.2.2
/-- a number with the sign of c -/
def sg (r : Int32) (c : Int) : Prop := (r < 0 ↔ c < 0) ∧ (r = 0 ↔ c = 0)
theorem sg_le {r : Int32} {c : Int} (h : sg r c) : r ≤ 0 ↔ c ≤ 0 := by
  have h1 := h.1
  have h2 := h.2
  rw [Int32.lt_iff_toInt_lt, Int32.toInt_zero] at h1
  rw [← Int32.toInt_inj, Int32.toInt_zero] at h2
  rw [Int32.le_iff_toInt_le, Int32.toInt_zero]
  omega
theorem sg_gt {r : Int32} {c : Int} (h : sg r c) : 0 < r ↔ 0 < c := by
  have h1 := h.1
  have h2 := h.2
  rw [Int32.lt_iff_toInt_lt, Int32.toInt_zero] at h1
  rw [← Int32.toInt_inj, Int32.toInt_zero] at h2
  rw [Int32.lt_iff_toInt_lt, Int32.toInt_zero]
  omega
theorem sg_ge {r : Int32} {c : Int} (h : sg r c) : 0 ≤ r ↔ 0 ≤ c := by
  have h1 := h.1
  have h2 := h.2
  rw [Int32.lt_iff_toInt_lt, Int32.toInt_zero] at h1
  rw [← Int32.toInt_inj, Int32.toInt_zero] at h2
  rw [Int32.le_iff_toInt_le, Int32.toInt_zero]
  omega
theorem sg_of {r : Int32} {c : Int} (h1 : r.toInt < 0 ↔ c < 0) (h2 : r.toInt = 0 ↔ c = 0) : sg r c := by
  unfold sg
  rw [Int32.lt_iff_toInt_lt, Int32.toInt_zero, ← Int32.toInt_inj, Int32.toInt_zero]
  exact ⟨h1, h2⟩
theorem tc_drop {s t : List Nat} {i : Nat} (h1 : i < s.length) (h2 : i < t.length) : tc (s.drop i) (t.drop i) = if s.getD i 0 < t.getD i 0 then -1 else if t.getD i 0 < s.getD i 0 then 1 else tc (s.drop (i + 1)) (t.drop (i + 1)) := by
  rw [List.drop_eq_getElem_cons h1, List.drop_eq_getElem_cons h2]
  simp only [tc, List.getD_eq_getElem?_getD, List.getElem?_eq_getElem h1, List.getElem?_eq_getElem h2, Option.getD_some]
theorem tc_end {s t : List Nat} {i : Nat} (h1 : i ≤ s.length) (h2 : i ≤ t.length) (h : s.length ≤ i ∨ t.length ≤ i) : (tc (s.drop i) (t.drop i) < 0 ↔ s.length < t.length) ∧ (tc (s.drop i) (t.drop i) = 0 ↔ s.length = t.length) := by
  have e1 : (s.drop i).length = s.length - i := List.length_drop
  have e2 : (t.drop i).length = t.length - i := List.length_drop
  cases hs : s.drop i with
  | nil =>
    rw [hs] at e1
    cases ht : t.drop i with
    | nil =>
      rw [ht] at e2
      simp only [List.length_nil] at e1 e2
      simp only [tc]
      exact ⟨⟨fun q => absurd q (by decide), fun q => by omega⟩, ⟨fun _ => by omega, fun _ => by trivial⟩⟩
    | cons b t' =>
      rw [ht] at e2
      simp only [List.length_nil, List.length_cons] at e1 e2
      simp only [tc]
      omega
  | cons a s' =>
    rw [hs] at e1
    cases ht : t.drop i with
    | nil =>
      rw [ht] at e2
      simp only [List.length_nil, List.length_cons] at e1 e2
      simp only [tc]
      omega
    | cons b t' =>
      rw [ht] at e2
      simp only [List.length_cons] at e1 e2
      omega
def isT (G : jG) (w : jw) (t : Nat) (tx : List Nat) : Prop := tx.length ≤ 255 ∧ ((t = G.2.2 ∧ tx = []) ∨ ∃ f, jh w t (eB G tx.length f) ∧ ∀ j, j < tx.length → tx.getD j 0 = ub (f j))
def isV (G : jG) (w : jw) (a : Nat) (x : jv) : Prop := ∃ t, jh w a (eO cV [.int x.1, .long x.2.1, .ref t]) ∧ isT G w t x.2.2
section JT
variable {X : jX} {own : String} {cc : ByteArray} {v : Nat × Nat} {ret : Option FieldType} {d0 mc ms : Nat} {Q : State → Prop} {w : jw} {k n pc t : Nat} {lv : List (Nat × Value)} {st : List Value}
theorem j_tlen {a : Nat} {tx : List Nat} (C : jC X own cc v ret d0 mc ms) (d : decode cc pc = .ok (.arraylength, 1)) (h : isT (xG X) w a tx) (ht : pc + 1 = t) (K : J X v Q w k n t lv (.int (nI tx.length) :: st)) : J X v Q w k n pc lv (.ref a :: st) := by
  rcases h with ⟨-, ⟨rfl, rfl⟩ | ⟨f, h, -⟩⟩
  · exact j_zlen C d ht K
  · exact j_alen (tk := 1) C d h rfl ht K
theorem j_tld {a i : Nat} {tx : List Nat} (C : jC X own cc v ret d0 mc ms) (d : decode cc pc = .ok (.baload, 1)) (h : isT (xG X) w a tx) (hi : i < tx.length) (ht : pc + 1 = t) (K : ∀ x : Int32, ub x = tx.getD i 0 → J X v Q w k n t lv (.int x :: st)) : J X v Q w k n pc lv (.int (nI i) :: .ref a :: st) := by
  rcases h with ⟨hl, ⟨rfl, rfl⟩ | ⟨f, h, hf⟩⟩
  · simp at hi
  · refine j_baload C d h (vp_in_nI hi (by omega)) ht (K _ ?_)
    rw [nI_clamp (by omega)]
    exact (hf i hi).symm
end JT
theorem order_leneq {x y : jv} (hx : x.2.2.length ≤ 255) (hy : y.2.2.length ≤ 255) (h : nI x.2.2.length = nI y.2.2.length) : x.2.2.length = y.2.2.length := (nI_eq (by omega) (by omega)).mp h
theorem order_len {x y : jv} (hx : x.2.2.length ≤ 255) (hy : y.2.2.length ≤ 255) (h : ¬ nI x.2.2.length = nI y.2.2.length) (hte : (tc x.2.2 y.2.2 < 0 ↔ x.2.2.length < y.2.2.length) ∧ (tc x.2.2 y.2.2 = 0 ↔ x.2.2.length = y.2.2.length)) : sg (nI x.2.2.length - nI y.2.2.length) (vc x y) := by
  have hne : x.2.2.length ≠ y.2.2.length := fun q => h (by rw [q])
  have h0 : ¬ tc x.2.2 y.2.2 = 0 := fun q => hne (hte.2.mp q)
  have hv : vc x y = tc x.2.2 y.2.2 := by unfold vc; rw [if_neg h0]
  rw [hv]
  refine sg_of ?_ ?_ <;> rw [pk_sub_toInt (by omega) (by omega)] <;> omega
theorem order_num_lt {x y : jv} (ht : tc x.2.2 y.2.2 = 0) (h : ¬ 0 ≤ lg_cmp x.2.1 y.2.1) : sg (-1) (vc x y) := by
  rw [lg_cmp_ge] at h
  have h1 : x.2.1 < y.2.1 := by
    rw [Int64.le_iff_toInt_le] at h
    rw [Int64.lt_iff_toInt_lt]
    omega
  have hv : vc x y = -1 := by unfold vc; rw [if_pos ht, if_pos h1]
  rw [hv]
  exact sg_of (by decide) (by decide)
theorem order_num_gt {x y : jv} (ht : tc x.2.2 y.2.2 = 0) (h : 0 ≤ lg_cmp x.2.1 y.2.1) (h2 : ¬ lg_cmp x.2.1 y.2.1 ≤ 0) : sg 1 (vc x y) := by
  rw [lg_cmp_ge] at h
  rw [lg_cmp_le] at h2
  have h1 : ¬ x.2.1 < y.2.1 := by
    rw [Int64.le_iff_toInt_le] at h
    rw [Int64.lt_iff_toInt_lt]
    omega
  have h3 : y.2.1 < x.2.1 := by
    rw [Int64.le_iff_toInt_le] at h2
    rw [Int64.lt_iff_toInt_lt]
    omega
  have hv : vc x y = 1 := by unfold vc; rw [if_pos ht, if_neg h1, if_pos h3]
  rw [hv]
  exact sg_of (by decide) (by decide)
theorem order_num_eq {x y : jv} (ht : tc x.2.2 y.2.2 = 0) (h : 0 ≤ lg_cmp x.2.1 y.2.1) (h2 : lg_cmp x.2.1 y.2.1 ≤ 0) : sg 0 (vc x y) := by
  rw [lg_cmp_ge] at h
  rw [lg_cmp_le] at h2
  have h1 : ¬ x.2.1 < y.2.1 := by
    rw [Int64.le_iff_toInt_le] at h
    rw [Int64.lt_iff_toInt_lt]
    omega
  have h3 : ¬ y.2.1 < x.2.1 := by
    rw [Int64.le_iff_toInt_le] at h2
    rw [Int64.lt_iff_toInt_lt]
    omega
  have hv : vc x y = 0 := by unfold vc; rw [if_pos ht, if_neg h1, if_neg h3]
  rw [hv]
  exact sg_of (by decide) (by decide)
theorem order_byte {x y : jv} {i : Nat} (h1 : i < x.2.2.length) (h2 : i < y.2.2.length) (ha : x.2.2.getD i 0 < 256) (hb : y.2.2.getD i 0 < 256) (htc : tc (x.2.2.drop i) (y.2.2.drop i) = tc x.2.2 y.2.2) (h : ¬ nI (x.2.2.getD i 0) - nI (y.2.2.getD i 0) = 0) : sg (nI (x.2.2.getD i 0) - nI (y.2.2.getD i 0)) (vc x y) := by
  have hd : (nI (x.2.2.getD i 0) - nI (y.2.2.getD i 0)).toInt = (x.2.2.getD i 0 : Int) - (y.2.2.getD i 0 : Int) := pk_sub_toInt (by omega) (by omega)
  have hne : x.2.2.getD i 0 ≠ y.2.2.getD i 0 := fun q => h (by rw [← Int32.toInt_inj, hd, q, Int32.toInt_zero]; omega)
  rw [tc_drop h1 h2] at htc
  by_cases hlt : x.2.2.getD i 0 < y.2.2.getD i 0
  · rw [if_pos hlt] at htc
    have hv : vc x y = -1 := by unfold vc; rw [← htc]; rfl
    rw [hv]
    exact sg_of (by rw [hd]; omega) (by rw [hd]; omega)
  · have hgt : y.2.2.getD i 0 < x.2.2.getD i 0 := by omega
    rw [if_neg hlt, if_pos hgt] at htc
    have hv : vc x y = 1 := by unfold vc; rw [← htc]; rfl
    rw [hv]
    exact sg_of (by rw [hd]; omega) (by rw [hd]; omega)
theorem order_next {x y : jv} {i : Nat} (h1 : i < x.2.2.length) (h2 : i < y.2.2.length) (ha : x.2.2.getD i 0 < 256) (hb : y.2.2.getD i 0 < 256) (htc : tc (x.2.2.drop i) (y.2.2.drop i) = tc x.2.2 y.2.2) (h : nI (x.2.2.getD i 0) - nI (y.2.2.getD i 0) = 0) : tc (x.2.2.drop (i + 1)) (y.2.2.drop (i + 1)) = tc x.2.2 y.2.2 := by
  have hd : (nI (x.2.2.getD i 0) - nI (y.2.2.getD i 0)).toInt = (x.2.2.getD i 0 : Int) - (y.2.2.getD i 0 : Int) := pk_sub_toInt (by omega) (by omega)
  rw [← Int32.toInt_inj, hd, Int32.toInt_zero] at h
  rw [tc_drop h1 h2, if_neg (by omega), if_neg (by omega)] at htc
  exact htc
def bI (b : Bool) : Int32 := bif b then 1 else 0
def trS (a b c : Bool) : Int32 := ((bif a then 1 else 0) ||| (bif b then 2 else 0)) ||| (bif c then 4 else 0)
def hs (a t : Int32) : Bool := decide (¬ a &&& t = 0)
def nS (a : Int32) : Int32 := trS (hs a 2) (hs a 1) (hs a 4)
def aS (a b : Int32) : Int32 := trS (hs (a ||| b) 1) (hs (a &&& b) 2) ((hs a 4 && hs b 6) || (hs b 4 && hs a 6))
def oS (a b : Int32) : Int32 := trS (hs (a &&& b) 1) (hs (a ||| b) 2) ((hs a 4 && hs b 5) || (hs b 4 && hs a 5))
def hO (op x : Int32) : Bool := if op = 0 then decide (x = 0) else if op = 1 then decide (¬ x = 0) else if op = 2 then decide (x < 0) else if op = 3 then decide (x ≤ 0) else if op = 4 then decide (0 < x) else decide (0 ≤ x)
def cO (op : Int32) : Int32 := if op ≤ 1 then 1 - op else 7 - op
def nO (ty : Int32) (x : Int64) : Bool := decide (ty = 1) || (decide (ty = 0) && (decide (x = 0) || decide (x = 1)))
theorem bI_0 {b : Bool} : bI b = 0 ↔ b = false := by cases b <;> simp [bI]
theorem bI_1 {b : Bool} : bI b = 1 ↔ b = true := by cases b <;> simp [bI]
theorem i_lt {a b : Int32} : (a < b) = ¬ b ≤ a := propext Int32.not_le.symm
