theorem i32_1 : (1 : Int32).toInt = 1 := rfl
theorem aLt_f1 {ty p m : Int32} {ln : Nat} {lit : Nat → jv} (h : p < 0) : aLt ty p m ln lit = false := by
  unfold aLt
  rw [Int32.lt_iff_toInt_lt, Int32.toInt_zero] at h
  rw [if_neg (by omega)]
theorem aLt_f2 {ty p m : Int32} {ln : Nat} {lit : Nat → jv} (hl : ln ≤ 64) (h : nI ln ≤ p) : aLt ty p m ln lit = false := by
  unfold aLt
  rw [Int32.le_iff_toInt_le, nI_toInt (by omega)] at h
  rw [if_neg (by omega)]
theorem aLt_f3 {ty p m : Int32} {ln : Nat} {lit : Nat → jv} (h : m < 1) : aLt ty p m ln lit = false := by
  unfold aLt
  rw [Int32.lt_iff_toInt_lt, i32_1] at h
  rw [if_neg (by omega)]
theorem aLt_pm {p m : Int32} {ln : Nat} (hl : ln ≤ 64) (h1 : ¬ p < 0) (h9 : ¬ nI ln ≤ p) (h14 : ¬ m < 1) : ∃ P, p = nI P ∧ P < ln ∧ nI ln - p = nI (ln - P) := by
  obtain ⟨P, hP, rfl⟩ := nI_of h1
  have h2 : P < ln := by
    rcases Nat.lt_or_ge P ln with q | q
    · exact q
    · exact absurd (nI_le q hP) h9
  exact ⟨P, rfl, h2, pk_sub (by omega)⟩
theorem aLt_f4 {ty p m : Int32} {ln : Nat} {lit : Nat → jv} (hl : ln ≤ 64) (h1 : ¬ p < 0) (h9 : ¬ nI ln ≤ p) (h14 : ¬ m < 1) (h24 : ¬ m ≤ nI ln - p) : aLt ty p m ln lit = false := by
  obtain ⟨P, rfl, hP, e⟩ := aLt_pm hl h1 h9 h14
  rw [e, Int32.le_iff_toInt_le, nI_toInt (by omega)] at h24
  unfold aLt
  rw [nI_toInt (by omega), if_neg (by omega)]
theorem aLt_t {ty p m : Int32} {ln : Nat} {lit : Nat → jv} (hl : ln ≤ 64) (h1 : ¬ p < 0) (h9 : ¬ nI ln ≤ p) (h14 : ¬ m < 1) (h24 : m ≤ nI ln - p) : ∃ P N : Nat, p = nI P ∧ m = nI N ∧ P + N ≤ ln ∧ 1 ≤ N ∧ aLt ty p m ln lit = tyAll ty lit P N := by
  obtain ⟨P, rfl, hP, e⟩ := aLt_pm hl h1 h9 h14
  rw [e, Int32.le_iff_toInt_le, nI_toInt (by omega)] at h24
  rw [Int32.lt_iff_toInt_lt, i32_1] at h14
  have hm : ¬ m < 0 := by
    rw [Int32.lt_iff_toInt_lt, Int32.toInt_zero]
    omega
  obtain ⟨N, hN, rfl⟩ := nI_of hm
  rw [nI_toInt hN] at h14 h24
  refine ⟨P, N, rfl, rfl, by omega, by omega, ?_⟩
  unfold aLt
  rw [nI_toInt (by omega), nI_toInt hN, if_pos (by omega), nI_clamp (by omega), nI_clamp hN]
def opK (op : Int32) : Bool := decide (0 ≤ op) && decide (op ≤ 5)
def fitS (kd : Int32) (b1 : Bool) (t1 op : Int32) (b2 : Bool) (t2 p m : Int32) (ln : Nat) (lit : Nat → jv) : Bool := b1 && (if kd = 2 then aLt t1 p m ln lit else if kd = 3 then opK op && aLt t1 p m ln lit else if kd = 4 then opK op && (b2 && decide (t2 = t1)) else true)
theorem wait_I {c t : Nat} (h : t ≤ c) (h2 : t ≤ 2) : nI c + (1 - nI t) = nI (c + 1 - t) := by
  rcases (show t = 0 ∨ t = 1 ∨ t = 2 by omega) with rfl | rfl | rfl
  · rw [show (1 : Int32) - nI 0 = 1 by decide, nI_1]; rfl
  · rw [show (1 : Int32) - nI 1 = 0 by decide, Int32.add_zero]; rfl
  · obtain ⟨d, rfl⟩ : ∃ d, c = d + 1 := ⟨c - 1, by omega⟩
    rw [show (1 : Int32) - nI 2 = -1 by decide, pk_m1]; rfl
/-- what stays when int arrays are written -/
def PK (G : jG) (w w' : jw) : Prop := ∀ b e, (∀ n f, e ≠ eI G n f) → jh w b e → jh w' b e
theorem PK.rf {G : jG} {w : jw} : PK G w w := fun _ _ _ h => h
theorem PK.tr {G : jG} {w w1 w2 : jw} (h : PK G w w1) (h2 : PK G w1 w2) : PK G w w2 := fun b e he h1 => h2 b e he (h b e he h1)
theorem PK.put {G : jG} {w w1 w2 : jw} {a n : Nat} {f : Nat → Int32} (h : PK G w w1) (ha : jh w1 a (eI G n f)) (hf : ∀ b e, b ≠ a → jh w1 b e → jh w2 b e) : PK G w w2 := fun b e he h1 => by
  have h2 := h b e he h1
  exact hf b e (fun q => he n f (by subst q; exact jh_eq h2 ha)) h2
theorem nI_O {G : jG} {ci : Nat} {fs : List Value} : ∀ n f, eO ci fs ≠ eI G n f := fun _ _ h => by simp at h
theorem nI_R {G : jG} {k N : Nat} {g : Nat → Option Nat} : ∀ n f, eR G k N g ≠ eI G n f := fun _ _ h => by simp at h
theorem nI_B {G : jG} {N : Nat} {g : Nat → Int32} (hG : G.2.1 0 ≠ G.2.1 1) : ∀ n f, eB G N g ≠ eI G n f := fun _ _ h => by simp at h; exact hG h.1.symm
theorem isT_pk {G : jG} {w w' : jw} {t : Nat} {tx : List Nat} (hG : G.2.1 0 ≠ G.2.1 1) (K : PK G w w') (h : isT G w t tx) : isT G w' t tx := by
  obtain ⟨hl, h⟩ := h
  refine ⟨hl, ?_⟩
  rcases h with h | ⟨f, h1, h2⟩
  · exact Or.inl h
  · exact Or.inr ⟨f, K _ _ (nI_B hG) h1, h2⟩
theorem isV_pk {G : jG} {w w' : jw} {b : Nat} {x : jv} (hG : G.2.1 0 ≠ G.2.1 1) (K : PK G w w') (h : isV G w b x) : isV G w' b x := by
  obtain ⟨t, h1, h2⟩ := h
  exact ⟨t, K _ _ nI_O h1, isT_pk hG K h2⟩
theorem isO_pk {G : jG} {w w' : jw} {r : Option Nat} {x : Option jv} (hG : G.2.1 0 ≠ G.2.1 1) (K : PK G w w') (h : isO G w r x) : isO G w' r x := by
  cases r with
  | none => exact h
  | some a =>
    obtain ⟨v, h1, h2⟩ := h
    exact ⟨v, h1, isV_pk hG K h2⟩
theorem isR_pk {G : jG} {w w' : jw} {a r1 : Nat} {f : Nat → Option Nat} (K : PK G w w') (h : isR G w a r1 f) : isR G w' a r1 f := by
  obtain ⟨fs, ra, rc, h1, h2, h3, h4, h5⟩ := h
  exact ⟨fs, ra, rc, K _ _ nI_O h1, h2, h3, K _ _ nI_R h4, h5⟩
theorem isL_pk {G : jG} {w w' : jw} {al : Nat} {lit : Nat → jv} {p m : Nat} (hG : G.2.1 0 ≠ G.2.1 1) (K : PK G w w') (h : isL G w al lit p m) : isL G w' al lit p m := by
  obtain ⟨f, h1, h2, h3⟩ := h
  refine ⟨f, K _ _ nI_R h1, h2, fun j a b => ?_⟩
  obtain ⟨q, q1, q2⟩ := h3 j a b
  exact ⟨q, q1, isV_pk hG K q2⟩
theorem isK_pk {G : jG} {w w' : jw} {a : Nat} {lo hi : jv} {ec : Nat} {ef : Nat → jv} (hG : G.2.1 0 ≠ G.2.1 1) (K : PK G w w') (h : isK G w a lo hi ec ef) : isK G w' a lo hi ec ef := by
  obtain ⟨ty, ra, rc, tb, kn, kr, km, lA, hA, ea, fe, sa, h1, h2, h3, h4, h5, h6⟩ := h
  refine ⟨ty, ra, rc, tb, kn, kr, km, lA, hA, ea, fe, sa, K _ _ nI_O h1, isV_pk hG K h2, isV_pk hG K h3, K _ _ nI_R h4, h5, fun j hj => ?_⟩
  obtain ⟨q, q1, q2⟩ := h6 j hj
  exact ⟨q, q1, isV_pk hG K q2⟩
theorem isM_pk {G : jG} {w w' : jw} {a : Nat} {kn : Bool} {kr km : Int32} {lo hi : jv} {ec : Nat} {ef : Nat → jv} (hG : G.2.1 0 ≠ G.2.1 1) (K : PK G w w') (h : isM G w a kn kr km lo hi ec ef) : isM G w' a kn kr km lo hi ec ef := by
  obtain ⟨ty, ra, rc, tb, lA, hA, ea, eI1, sa, h1, h2⟩ := h
  exact ⟨ty, ra, rc, tb, lA, hA, ea, eI1, sa, K _ _ nI_O h1, fun q1 q2 => ⟨(h2 q1 q2).1, (h2 q1 q2).2.1, isK_pk hG K (h2 q1 q2).2.2⟩⟩
/-- what a step that looks at a column is at row r1 / can be -/
def tR (kd op : Int32) (v1 v2 : Option jv) (lit : Nat → jv) (p m : Nat) : Int32 :=
  if kd = 0 then (if v1 = none then 2 else 1) else if kd = 1 then (if v1 = none then 1 else 2) else if kd = 2 then (match v1 with | none => 4 | some x => bif amg x lit p m then 2 else 1) else if kd = 3 then (match v1 with | none => 4 | some x => bif hV op (vc x (lit p)) then 2 else 1) else (match v1, v2 with | none, _ => 4 | some _, none => 4 | some x, some y => bif hV op (vc x y) then 2 else 1)
def tC1 (kd op : Int32) (kn : Bool) (kr km : Int32) (lo hi : jv) (ec : Nat) (ef : Nat → jv) (kn2 : Bool) (kr2 km2 : Int32) (lo2 hi2 : jv) (lit : Nat → jv) (p m : Nat) : Int32 :=
  if kd = 0 then (bif kn then trS (decide (km < kr)) (decide (0 < km)) false else 3) else if kd = 1 then (bif kn then nS (trS (decide (km < kr)) (decide (0 < km)) false) else 3) else if kd = 2 then (bif kn then (bif decide (km < kr) then trS (outK lit p m lo hi ec ef) (inK lit p lo hi ec ef m) (decide (0 < km)) else trS false false (decide (0 < km))) else 7) else if kd = 3 then (bif kn then (bif decide (km < kr) then trS (cmL (cO op) lo hi ec ef (lit p)) (cmL op lo hi ec ef (lit p)) (decide (0 < km)) else trS false false (decide (0 < km))) else 7) else (bif kn && kn2 then (bif decide (km < kr) && decide (km2 < kr2) then trS (cH (cO op) lo hi lo2 hi2) (cH op lo hi lo2 hi2) (decide (0 < km) || decide (0 < km2)) else trS false false (decide (0 < km) || decide (0 < km2))) else 7)
def rowP (G : jG) (w : jw) (b r1 : Nat) (v : Int32) : Prop := ∃ (ca : Nat) (kd op : Int32) (oth : Option Nat) (al : Nat) (fi mn : Int32) (f : Nat → Option Nat) (v1 v2 : Option jv) (lit : Nat → jv) (p m cb : Nat) (f2 : Nat → Option Nat), jh w b (eO cS [.int kd, va_rf (some ca), .int op, va_rf oth, .ref al, .int fi, .int mn]) ∧ isR G w ca r1 f ∧ isO G w (f r1) v1 ∧ v = tR kd op v1 v2 lit p m ∧ (kd = 0 ∨ kd = 1 ∨ (kd = 2 ∧ fi = nI p ∧ mn = nI m ∧ isL G w al lit p m) ∨ (kd = 3 ∧ fi = nI p ∧ isL G w al lit p 1) ∨ (kd = 4 ∧ oth = some cb ∧ isR G w cb r1 f2 ∧ isO G w (f2 r1) v2))
def canP (G : jG) (w : jw) (b : Nat) (v : Int32) : Prop := ∃ (ca : Nat) (kd op : Int32) (oth : Option Nat) (al : Nat) (fi mn : Int32) (kn : Bool) (kr km : Int32) (lo hi : jv) (ec : Nat) (ef : Nat → jv) (lit : Nat → jv) (p m cb : Nat) (kn2 : Bool) (kr2 km2 : Int32) (lo2 hi2 : jv) (ec2 : Nat) (ef2 : Nat → jv), jh w b (eO cS [.int kd, va_rf (some ca), .int op, va_rf oth, .ref al, .int fi, .int mn]) ∧ isM G w ca kn kr km lo hi ec ef ∧ v = tC1 kd op kn kr km lo hi ec ef kn2 kr2 km2 lo2 hi2 lit p m ∧ ((kd = 0 ∧ oth = none) ∨ (kd = 1 ∧ oth = none) ∨ (kd = 2 ∧ oth = none ∧ fi = nI p ∧ mn = nI m ∧ isL G w al lit p m) ∨ (kd = 3 ∧ oth = none ∧ fi = nI p ∧ isL G w al lit p 1) ∨ (kd = 4 ∧ oth = some cb ∧ isM G w cb kn2 kr2 km2 lo2 hi2 ec2 ef2))
theorem rowP_pk {G : jG} {w w' : jw} {b r1 : Nat} {v : Int32} (hG : G.2.1 0 ≠ G.2.1 1) (K : PK G w w') (h : rowP G w b r1 v) : rowP G w' b r1 v := by
  obtain ⟨ca, kd, op, oth, al, fi, mn, f, v1, v2, lit, p, m, cb, f2, h1, h2, h3, h4, h5⟩ := h
  refine ⟨ca, kd, op, oth, al, fi, mn, f, v1, v2, lit, p, m, cb, f2, K _ _ nI_O h1, isR_pk K h2, isO_pk hG K h3, h4, ?_⟩
  rcases h5 with h | h | ⟨q1, q2, q3, q4⟩ | ⟨q1, q2, q3⟩ | ⟨q1, q2, q3, q4⟩
  · exact Or.inl h
  · exact Or.inr (Or.inl h)
  · exact Or.inr (Or.inr (Or.inl ⟨q1, q2, q3, isL_pk hG K q4⟩))
  · exact Or.inr (Or.inr (Or.inr (Or.inl ⟨q1, q2, isL_pk hG K q3⟩)))
  · exact Or.inr (Or.inr (Or.inr (Or.inr ⟨q1, q2, isR_pk K q3, isO_pk hG K q4⟩)))
theorem canP_pk {G : jG} {w w' : jw} {b : Nat} {v : Int32} (hG : G.2.1 0 ≠ G.2.1 1) (K : PK G w w') (h : canP G w b v) : canP G w' b v := by
  obtain ⟨ca, kd, op, oth, al, fi, mn, kn, kr, km, lo, hi, ec, ef, lit, p, m, cb, kn2, kr2, km2, lo2, hi2, ec2, ef2, h1, h2, h4, h5⟩ := h
  refine ⟨ca, kd, op, oth, al, fi, mn, kn, kr, km, lo, hi, ec, ef, lit, p, m, cb, kn2, kr2, km2, lo2, hi2, ec2, ef2, K _ _ nI_O h1, isM_pk hG K h2, h4, ?_⟩
  rcases h5 with h | h | ⟨q1, q2, q3, q4, q5⟩ | ⟨q1, q2, q3, q4⟩ | ⟨q1, q2, q3⟩
  · exact Or.inl h
  · exact Or.inr (Or.inl h)
  · exact Or.inr (Or.inr (Or.inl ⟨q1, q2, q3, q4, isL_pk hG K q5⟩))
  · exact Or.inr (Or.inr (Or.inr (Or.inl ⟨q1, q2, q3, isL_pk hG K q4⟩)))
  · exact Or.inr (Or.inr (Or.inr (Or.inr ⟨q1, q2, isM_pk hG K q3⟩)))
/-- atRow and canBe of any kind -/
theorem c_S_atRow (l : Launch) (b r1 : Nat) (v : Int32) : MC l y_S_atRow b_S_atRow 4 (some .int) 2 0 0 (fun G w av => av = [.ref b, .int (nI r1)] ∧ rowP G w b r1 v) (fun _ w _ r w' => w' = w ∧ r = some (.int v)) := by
  intro G w av sz hp
  obtain ⟨rfl, ca, kd, op, oth, al, fi, mn, f, v1, v2, lit, p, m, cb, f2, h1, h2, h3, rfl, h5⟩ := hp
  rcases h5 with rfl | rfl | ⟨rfl, q2, q3, q4⟩ | ⟨rfl, q2, q3⟩ | ⟨rfl, q2, q3, q4⟩
  · exact c_S_atRow_0 l b ca op oth al fi mn r1 f v1 G w _ sz ⟨rfl, h1, h2, h3⟩
  · exact c_S_atRow_1 l b ca op oth al fi mn r1 f v1 G w _ sz ⟨rfl, h1, h2, h3⟩
  · exact c_S_atRow_2 l b ca op oth al fi mn r1 f v1 lit p m G w _ sz ⟨rfl, h1, h2, h3, q2, q3, q4⟩
  · exact c_S_atRow_3 l b ca op oth al fi mn r1 f v1 lit p G w _ sz ⟨rfl, h1, h2, h3, q2, q3⟩
  · exact c_S_atRow_4 l b ca op oth al fi mn r1 f v1 cb f2 v2 G w _ sz ⟨rfl, h1, h2, h3, q2, q3, q4⟩
theorem c_S_canBe (l : Launch) (b : Nat) (v : Int32) : MC l y_S_canBe b_S_canBe 3 (some .int) 4 0 0 (fun G w av => av = [.ref b] ∧ canP G w b v) (fun _ w _ r w' => w' = w ∧ r = some (.int v)) := by
  intro G w av sz hp
  obtain ⟨rfl, ca, kd, op, oth, al, fi, mn, kn, kr, km, lo, hi, ec, ef, lit, p, m, cb, kn2, kr2, km2, lo2, hi2, ec2, ef2, h1, h2, rfl, h5⟩ := hp
  rcases h5 with ⟨rfl, q⟩ | ⟨rfl, q⟩ | ⟨rfl, q2, q3, q4, q5⟩ | ⟨rfl, q2, q3, q4⟩ | ⟨rfl, q2, q3⟩
  · exact c_S_canBe_0 l b ca op oth al fi mn kn kr km lo hi ec ef G w _ sz ⟨rfl, h1, h2, q⟩
  · exact c_S_canBe_1 l b ca op oth al fi mn kn kr km lo hi ec ef G w _ sz ⟨rfl, h1, h2, q⟩
  · exact c_S_canBe_2 l b ca op oth al fi mn kn kr km lo hi ec ef lit p m G w _ sz ⟨rfl, h1, h2, q2, q3, q4, q5⟩
  · exact c_S_canBe_3 l b ca op oth al fi mn kn kr km lo hi ec ef lit p G w _ sz ⟨rfl, h1, h2, q2, q3, q4⟩
  · exact c_S_canBe_4 l b ca op oth al fi mn kn kr km lo hi ec ef cb kn2 kr2 km2 lo2 hi2 ec2 ef2 G w _ sz ⟨rfl, h1, h2, q2, q3⟩
/-- the pile behind i steps -/
def stk (at1 : Nat → Int32) (kd : Nat → Int32) : Nat → Nat → Int32
  | 0 => fun _ => 0
  | i + 1 =>
    if tkN (kd i) = 0 then upd (stk at1 kd i) ((wN kd i).getD 0) (at1 i)
    else if tkN (kd i) = 1 then upd (stk at1 kd i) ((wN kd i).getD 0 - 1) (nS (stk at1 kd i ((wN kd i).getD 0 - 1)))
    else if kd i = 6 then upd (stk at1 kd i) ((wN kd i).getD 0 - 2) (aS (stk at1 kd i ((wN kd i).getD 0 - 2)) (stk at1 kd i ((wN kd i).getD 0 - 1)))
    else upd (stk at1 kd i) ((wN kd i).getD 0 - 2) (oS (stk at1 kd i ((wN kd i).getD 0 - 2)) (stk at1 kd i ((wN kd i).getD 0 - 1)))
def outc (at1 : Nat → Int32) (kd : Nat → Int32) (n : Nat) : Int32 := if n = 0 then 2 else stk at1 kd n 0
theorem upd_on {f g : Nat → Int32} {c j k : Nat} {x : Int32} (h : ∀ j, j < c → f j = g j) (hj : j < c ∨ j = k) : upd f k x j = upd g k x j := by
  by_cases q : j = k
  · subst q; rw [upd_self, upd_self]
  · rw [upd_ne q, upd_ne q]
    rcases hj with hj | hj
    · exact h j hj
    · exact absurd hj q
theorem stk_0 {at1 kd : Nat → Int32} {i c : Nat} {f : Nat → Int32} (hw : wN kd i = some c) (h : ∀ j, j < c → f j = stk at1 kd i j) (ht : tkN (kd i) = 0) : ∀ j, j < c + 1 - tkN (kd i) → upd f c (at1 i) j = stk at1 kd (i + 1) j := by
  intro j hj
  simp only [stk, if_pos ht, hw, Option.getD_some]
  exact upd_on h (by omega)
theorem stk_1 {at1 kd : Nat → Int32} {i c : Nat} {f : Nat → Int32} (hw : wN kd i = some c) (h : ∀ j, j < c → f j = stk at1 kd i j) (ht : tkN (kd i) = 1) (hc : 1 ≤ c) : ∀ j, j < c + 1 - tkN (kd i) → upd f (c - 1) (nS (f (c - 1))) j = stk at1 kd (i + 1) j := by
  intro j hj
  simp only [stk, if_neg (show ¬ tkN (kd i) = 0 by omega), if_pos ht, hw, Option.getD_some]
  rw [h (c - 1) (by omega)]
  exact upd_on h (by omega)
theorem stk_a {at1 kd : Nat → Int32} {i c : Nat} {f : Nat → Int32} (hw : wN kd i = some c) (h : ∀ j, j < c → f j = stk at1 kd i j) (ht : tkN (kd i) = 2) (hk : kd i = 6) (hc : 2 ≤ c) : ∀ j, j < c + 1 - tkN (kd i) → upd f (c - 2) (aS (f (c - 2)) (f (c - 1))) j = stk at1 kd (i + 1) j := by
  intro j hj
  simp only [stk, if_neg (show ¬ tkN (kd i) = 0 by omega), if_neg (show ¬ tkN (kd i) = 1 by omega), if_pos hk, hw, Option.getD_some]
  rw [h (c - 1) (by omega), h (c - 2) (by omega)]
  exact upd_on h (by omega)
theorem stk_o {at1 kd : Nat → Int32} {i c : Nat} {f : Nat → Int32} (hw : wN kd i = some c) (h : ∀ j, j < c → f j = stk at1 kd i j) (ht : tkN (kd i) = 2) (hk : ¬ kd i = 6) (hc : 2 ≤ c) : ∀ j, j < c + 1 - tkN (kd i) → upd f (c - 2) (oS (f (c - 2)) (f (c - 1))) j = stk at1 kd (i + 1) j := by
  intro j hj
  simp only [stk, if_neg (show ¬ tkN (kd i) = 0 by omega), if_neg (show ¬ tkN (kd i) = 1 by omega), if_neg hk, hw, Option.getD_some]
  rw [h (c - 1) (by omega), h (c - 2) (by omega)]
  exact upd_on h (by omega)
