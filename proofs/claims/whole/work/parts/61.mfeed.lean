/-! The bytes of a fed int, as the reference takes them. -/
-- the next rows are kit/laws/BITS.to-paste's
def bt (x : Int32) (i : Nat) : Bool := x.toBitVec.getLsbD i
theorem b_ext {x y : Int32} (h : ∀ i, i < 32 → bt x i = bt y i) : x = y := Int32.toBitVec_inj.mp (BitVec.eq_of_getLsbD_eq (fun i hi => h i hi))
theorem b_and (x y : Int32) (i : Nat) : bt (x &&& y) i = (bt x i && bt y i) := by unfold bt; rw [Int32.toBitVec_and, BitVec.getLsbD_and]
theorem b_big {x : Int32} {i : Nat} (h : 32 ≤ i) : bt x i = false := BitVec.getLsbD_of_ge _ _ h
theorem b_255 (i : Nat) : bt 255 i = decide (i < 8) := by
  rcases Nat.lt_or_ge i 32 with h | h
  · exact (by decide +kernel : ∀ i, i < 32 → bt 255 i = decide (i < 8)) i h
  · rw [b_big h, decide_eq_false (by omega)]
theorem s_l : ∀ n, n < 32 → ((nI n &&& 31).toBitVec.smod 32).toNat = n := by decide +kernel
theorem s_u : ∀ n, n < 32 → (((nI n).toUInt32 &&& Int32.toUInt32 31).toBitVec % 32).toNat = n := by decide +kernel
theorem b_ushr (n : Nat) (hn : n < 32) (x : Int32) (i : Nat) : bt ((x.toUInt32 >>> ((nI n).toUInt32 &&& Int32.toUInt32 31)).toInt32) i = bt x (n + i) := by
  show (x.toUInt32 >>> ((nI n).toUInt32 &&& Int32.toUInt32 31)).toBitVec.getLsbD i = x.toUInt32.toBitVec.getLsbD (n + i)
  rw [UInt32.toBitVec_shiftRight]
  show (x.toUInt32.toBitVec >>> (((nI n).toUInt32 &&& Int32.toUInt32 31).toBitVec % 32).toNat).getLsbD i = _
  rw [s_u n hn, BitVec.getLsbD_ushiftRight]
theorem b_sshr (n : Nat) (hn : n < 32) (x : Int32) {i : Nat} (hi : i < 32) : bt (x >>> (nI n &&& 31)) i = if n + i < 32 then bt x (n + i) else bt x 31 := by
  unfold bt
  rw [Int32.toBitVec_shiftRight]
  show (x.toBitVec.sshiftRight ((nI n &&& 31).toBitVec.smod 32).toNat).getLsbD i = _
  rw [s_l n hn, BitVec.getLsbD_sshiftRight, BitVec.msb_eq_getLsbD_last]
  simp [hi]
theorem byt_s {x : Int32} {j : Nat} (hj : j < 4) : x >>> (nI (24 - 8 * j) &&& 31) &&& nI 255 = nI (byt x j) := by
  have e : x >>> (nI (24 - 8 * j) &&& 31) &&& (255 : Int32) = (x.toUInt32 >>> ((nI (24 - 8 * j)).toUInt32 &&& Int32.toUInt32 31)).toInt32 &&& 255 := by
    refine b_ext (fun i hi => ?_)
    rw [b_and, b_and, b_255, b_sshr (24 - 8 * j) (by omega) x hi, b_ushr (24 - 8 * j) (by omega) x i]
    by_cases h : i < 8
    · rw [if_pos (by omega)]
    · simp [h]
  show x >>> (nI (24 - 8 * j) &&& 31) &&& (255 : Int32) = _
  rw [e, ub_and]
  unfold ub byt
  rw [pk_ushr x (nI (24 - 8 * j)) (24 - 8 * j) (s_u _ (by omega))]
theorem feed_s : ∀ k, k < 20 → nI 24 - nI 8 * (nI k - nI k / 4 * 4) = nI (24 - 8 * (k % 4)) := by decide +kernel
theorem feed_v {x : Int32} {k : Nat} (h : k < 20) : x >>> ((nI 24 - nI 8 * (nI k - nI k / 4 * 4)) &&& 31) &&& nI 255 = nI (byt x (k % 4)) := by
  rw [feed_s k h]
  exact byt_s (Nat.mod_lt _ (by omega))
theorem trv_1 {z : Int32} : trv z = 1 ↔ z = 2 := by
  unfold trv
  by_cases h : z = 1
  · subst h; decide
  · rw [if_neg h]
    by_cases h2 : z = 2
    · rw [if_pos h2]; simp [h2]
    · rw [if_neg h2]; simp [h2]
theorem kthN_step {z : Nat → Int32} {k i : Nat} (h : kthN z k i = none) (h2 : ¬ (z i = 2 ∧ cnt z i = k)) : kthN z k (i + 1) = none := by simp only [kthN, h, if_neg h2]
theorem fb_0 {a b c d e : Int32} {k : Nat} (h : k < 4) : fb a b c d e k = byt a (k % 4) := by
  unfold fb; rw [if_pos h, Nat.mod_eq_of_lt h]
theorem fb_1 {a b c d e : Int32} {k : Nat} (h : ¬ k < 4) (h2 : k < 8) : fb a b c d e k = byt b (k % 4) := by
  unfold fb; rw [if_neg h, if_pos h2, show k % 4 = k - 4 by omega]
theorem fb_2 {a b c d e : Int32} {k : Nat} (h : ¬ k < 8) (h2 : k < 12) : fb a b c d e k = byt c (k % 4) := by
  unfold fb; rw [if_neg (by omega), if_neg h, if_pos h2, show k % 4 = k - 8 by omega]
theorem fb_3 {a b c d e : Int32} {k : Nat} (h : ¬ k < 12) (h2 : k < 16) : fb a b c d e k = byt d (k % 4) := by
  unfold fb; rw [if_neg (by omega), if_neg (by omega), if_neg h, if_pos h2, show k % 4 = k - 12 by omega]
theorem fb_4 {a b c d e : Int32} {k : Nat} (h : ¬ k < 16) (h2 : k < 20) : fb a b c d e k = byt e (k % 4) := by
  unfold fb; rw [if_neg (by omega), if_neg (by omega), if_neg (by omega), if_neg h, show k % 4 = k - 16 by omega]
theorem feed_next {ti : Nat → Int32} {tn k : Nat} {F : Nat → Nat} {v : Nat} (hf : ∀ j, j < k → ti (tn + j) = nI (F j)) (hv : F k = v) : ∀ j, j < k + 1 → upd ti (tn + k) (nI v) (tn + j) = nI (F j) := by
  intro j hj
  by_cases q : j = k
  · subst q; rw [upd_self, hv]
  · rw [upd_ne (by omega)]; exact hf j (by omega)
theorem relM_feed {s : jS} {m : jM} {a b c d e : Int32} {ti : Nat → Int32} (hR : relM s m) (h1 : ∀ j, j < g_tn s → ti j = nI (g_tp s j)) (h2 : ∀ j, j < 20 → ti (g_tn s + j) = nI (fb a b c d e j)) : relM (s_tn (s_tp s (fun j => if j < g_tn s then g_tp s j else fb a b c d e (j - g_tn s))) (g_tn s + 20)) (mp_tn (mp_tape m ti) (nI (g_tn s + 20))) := by
  obtain ⟨⟨r_tn, r_tp⟩, ⟨r_cc, r_ln, r_sn, r_zn⟩, r_col, r_new, r_sz, r_lit, r_st, r_zt⟩ := hR
  refine ⟨⟨rfl, fun j hj => ?_⟩, ⟨r_cc, r_ln, r_sn, r_zn⟩, r_col, r_new, r_sz, r_lit, r_st, r_zt⟩
  have hj' : j < g_tn s + 20 := hj
  show ti j = nI (if j < g_tn s then g_tp s j else fb a b c d e (j - g_tn s))
  by_cases q : j < g_tn s
  · rw [if_pos q]; exact h1 j q
  · rw [if_neg q]
    have := h2 (j - g_tn s) (by omega)
    rw [show g_tn s + (j - g_tn s) = j by omega] at this
    exact this
/-- single truths -/
def p124 (x : Int32) : Prop := x = 1 ∨ x = 2 ∨ x = 4
theorem p124_n {x : Int32} (h : p124 x) : p124 (nS x) := by
  rcases h with rfl | rfl | rfl <;> unfold p124 <;> decide
theorem p124_a {x y : Int32} (h : p124 x) (h2 : p124 y) : p124 (aS x y) := by
  rcases h with rfl | rfl | rfl <;> rcases h2 with rfl | rfl | rfl <;> unfold p124 <;> decide
theorem p124_o {x y : Int32} (h : p124 x) (h2 : p124 y) : p124 (oS x y) := by
  rcases h with rfl | rfl | rfl <;> rcases h2 with rfl | rfl | rfl <;> unfold p124 <;> decide
theorem p124_b {b : Bool} : p124 (bif b then 2 else 1) := by cases b <;> unfold p124 <;> decide
theorem tR_124 (kd op : Int32) (v1 v2 : Option jv) (lit : Nat → jv) (p m : Nat) : p124 (tR kd op v1 v2 lit p m) := by
  unfold tR
  have q1 : p124 1 := Or.inl rfl
  have q2 : p124 2 := Or.inr (Or.inl rfl)
  have q4 : p124 4 := Or.inr (Or.inr rfl)
  split
  · split
    · exact q2
    · exact q1
  · split
    · split
      · exact q1
      · exact q2
    · split
      · cases v1 with
        | none => exact q4
        | some x => exact p124_b
      · split
        · cases v1 with
          | none => exact q4
          | some x => exact p124_b
        · cases v1 with
          | none => exact q4
          | some x =>
            cases v2 with
            | none => exact q4
            | some y => exact p124_b
theorem upd_P {P : Int32 → Prop} {f : Nat → Int32} {k c : Nat} {x : Int32} (h : ∀ j, j < c → j ≠ k → P (f j)) (hx : P x) : ∀ j, j < c → P (upd f k x j) := by
  intro j hj
  by_cases q : j = k
  · subst q; rw [upd_self]; exact hx
  · rw [upd_ne q]; exact h j hj q
theorem stk_124 {at2 kd : Nat → Int32} (ha : ∀ j, p124 (at2 j)) : ∀ {i c : Nat}, wN kd i = some c → ∀ j, j < c → p124 (stk at2 kd i j)
  | 0, c, h, j, hj => by
    simp [wN] at h
    omega
  | i + 1, c, h, j, hj => by
    cases hw : wN kd i with
    | none => simp [wN, hw] at h
    | some d =>
      have ih := stk_124 ha hw
      have h1 : ¬ d < tkN (kd i) := fun z => by rw [wN_bad hw z] at h; cases h
      rw [wN_ok hw h1] at h
      cases h
      simp only [stk, hw, Option.getD_some]
      split
      · rename_i h0
        exact upd_P (c := d + 1 - tkN (kd i)) (fun k hk hn => ih k (by omega)) (ha i) j hj
      · rename_i h0
        split
        · rename_i h2
          exact upd_P (c := d + 1 - tkN (kd i)) (fun k hk hn => ih k (by omega)) (p124_n (ih (d - 1) (by omega))) j hj
        · rename_i h2
          have ht := tk_2 (kd i)
          split
          · exact upd_P (c := d + 1 - tkN (kd i)) (fun k hk hn => ih k (by omega)) (p124_a (ih (d - 2) (by omega)) (ih (d - 1) (by omega))) j hj
          · exact upd_P (c := d + 1 - tkN (kd i)) (fun k hk hn => ih k (by omega)) (p124_o (ih (d - 2) (by omega)) (ih (d - 1) (by omega))) j hj
theorem zS_124 {s : jS} (h : isCnd (g_sk s) (g_sn s) = true) (r : Nat) : p124 (zS s r) := by
  unfold zS outc
  by_cases z : g_sn s = 0
  · rw [if_pos z]; exact Or.inr (Or.inl rfl)
  · rw [if_neg z]
    have hw : wN (g_sk s) (g_sn s) = some 1 := by simpa [isCnd, z] using h
    exact stk_124 (fun j => tR_124 _ _ _ _ _ _ _) hw 0 (by omega)
def zI (s : jS) (i : Nat) : Nat → Int32 := fun j => if j < i then zS s j else g_zt s j
theorem WF_zt {s : jS} {z : Nat → Int32} (hW : WF s) (hz : ∀ r, r < g_zn s → p124 (z r)) : WF (s_zt s z) := by
  obtain ⟨wtn, wtp, wcc, wln, wsn, wzn, wcol, wlit, wst, wzt⟩ := hW
  exact ⟨wtn, wtp, wcc, wln, wsn, wzn, wcol, wlit, wst, hz⟩
theorem WF_zI {s : jS} {i : Nat} (hW : WF s) (h : isCnd (g_sk s) (g_sn s) = true) : WF (s_zt s (zI s i)) := WF_zt hW (fun r hr => by
  unfold zI
  split
  · exact zS_124 h r
  · exact hW.2.2.2.2.2.2.2.2.2 r hr)
/-- all but the scan's answers; two states that differ in a late place are compared through a third (the kernel's way over pairs grows fast) -/
def same11 (s t : jS) : Prop := g_tn s = g_tn t ∧ g_tp s = g_tp t ∧ g_cc s = g_cc t ∧ g_ln s = g_ln t ∧ g_lit s = g_lit t ∧ g_sn s = g_sn t ∧ g_sk s = g_sk t ∧ g_sc s = g_sc t ∧ g_so s = g_so t ∧ g_sp s = g_sp t ∧ g_sm s = g_sm t
theorem same11.tr {s t u : jS} (h : same11 s t) (h2 : same11 s u) : same11 t u := by
  obtain ⟨a1, a2, a3, a4, a5, a6, a7, a8, a9, a10, a11⟩ := h
  obtain ⟨b1, b2, b3, b4, b5, b6, b7, b8, b9, b10, b11⟩ := h2
  exact ⟨a1.symm.trans b1, a2.symm.trans b2, a3.symm.trans b3, a4.symm.trans b4, a5.symm.trans b5, a6.symm.trans b6, a7.symm.trans b7, a8.symm.trans b8, a9.symm.trans b9, a10.symm.trans b10, a11.symm.trans b11⟩
theorem colEq.tr {s t u : jS} {c : Nat} (h : colEq s t c) (h2 : colEq s u c) : colEq t u c := by
  obtain ⟨a1, a2, a3, a4, a5, a6, a7, a8, a9⟩ := h
  obtain ⟨b1, b2, b3, b4, b5, b6, b7, b8, b9⟩ := h2
  exact ⟨a1.symm.trans b1, a2.symm.trans b2, a3.symm.trans b3, a4.symm.trans b4, a5.symm.trans b5, a6.symm.trans b6, a7.symm.trans b7, a8.symm.trans b8, a9.symm.trans b9⟩
theorem zt_11 (s : jS) (z : Nat → Int32) : same11 s (s_zt s z) := ⟨rfl, rfl, rfl, rfl, rfl, rfl, rfl, rfl, rfl, rfl, rfl⟩
theorem zt_c (s : jS) (z : Nat → Int32) (c : Nat) : colEq s (s_zt s z) c := ⟨rfl, rfl, rfl, rfl, rfl, rfl, rfl, rfl, rfl⟩
theorem zz_11 (s : jS) (n : Nat) (z : Nat → Int32) : same11 s (s_zt (s_zn s n) z) := ⟨rfl, rfl, rfl, rfl, rfl, rfl, rfl, rfl, rfl, rfl, rfl⟩
theorem zz_c (s : jS) (n : Nat) (z : Nat → Int32) (c : Nat) : colEq s (s_zt (s_zn s n) z) c := ⟨rfl, rfl, rfl, rfl, rfl, rfl, rfl, rfl, rfl⟩
/-- a change of the scan's answers alone -/
theorem relM_z {s t : jS} {m m' : jM} (hR : relM s m) (es : same11 s t) (ec : ∀ c, colEq s t c) (em : mg_tape m' = mg_tape m ∧ mg_tn m' = mg_tn m ∧ mg_cc m' = mg_cc m ∧ mg_ln m' = mg_ln m ∧ mg_sn m' = mg_sn m ∧ mg_lt m' = mg_lt m ∧ mg_kd m' = mg_kd m ∧ mg_fi m' = mg_fi m ∧ mg_op m' = mg_op m ∧ mg_ot m' = mg_ot m ∧ mg_mn m' = mg_mn m) (e2 : restC m m') (hzn : mg_zn m' = nI (g_zn t)) (h : ∀ r, r < g_zn t → mg_tr m' r = trv (g_zt t r)) : relM t m' := by
  obtain ⟨⟨r_tn, r_tp⟩, ⟨r_cc, r_ln, r_sn, r_zn⟩, r_col, r_new, r_sz, r_lit, r_st, r_zt⟩ := hR
  obtain ⟨s1, s2, s3, s4, s5, s6, s7, s8, s9, s10, s11⟩ := es
  obtain ⟨m1, m2, m3, m4, m5, m7, m8, m9, m10, m11, m12⟩ := em
  obtain ⟨c1, c2, c3, c4, c5, c6, c7, c8, c9, c10, c11, c12, c13⟩ := e2
  refine ⟨⟨by rw [m2, ← s1]; exact r_tn, by rw [m1, ← s1, ← s2]; exact r_tp⟩, ⟨by rw [m3, ← s3]; exact r_cc, by rw [m4, ← s4]; exact r_ln, by rw [m5, ← s6]; exact r_sn, hzn⟩, fun c hc => ?_, fun c hc hl => ?_, fun c hc hl r hr => ?_, fun k hk => ?_, fun j hj => ?_, h⟩
  · rw [← s3] at hc
    have h1 := colM_eq (ec c) (r_col c hc)
    unfold colM knM rowM valM at h1 ⊢
    rw [c1, c2, c3, c4, c5, c6, c7, c8, c9, c10, c11, c12, c13]
    exact h1
  · rw [← s3] at hl
    have h1 := r_new c hc hl
    unfold newM at h1 ⊢
    rw [c6, c7, c11]
    exact h1
  · rw [c3]
    exact r_sz c hc (fun z => hl ⟨by rw [← s3]; exact z.1, by rw [← (ec c).1]; exact z.2⟩) r hr
  · rw [← s4] at hk
    have h1 := r_lit k hk
    unfold litM valM at h1 ⊢
    rw [c1, c2, c3, c4, m7, ← s5]
    exact h1
  · rw [← s6] at hj
    have h1 := r_st j hj
    unfold stM at h1 ⊢
    rw [m8, m9, m10, m11, m12, ← s7, ← s8, ← s9, ← s10, ← s11]
    exact h1
theorem relM_t {s : jS} {m : jM} {n : Nat} {z : Nat → Int32} (hR : relM s m) (e1 : g_zn s = n) (e2 : g_zt s = z) : ∀ r, r < n → mg_tr m r = trv (z r) := by
  subst e1; subst e2; exact hR.2.2.2.2.2.2.2
theorem zI_next {s : jS} {tr : Nat → Int32} {i n : Nat} {v : Int32} (h : ∀ r, r < n → tr r = trv (zI s i r)) (hv : v = trv (zS s i)) : ∀ r, r < n → upd tr i v r = trv (zI s (i + 1) r) := by
  intro r hr
  have h1 := h r hr
  by_cases q : r = i
  · subst q
    rw [upd_self, hv]
    unfold zI
    rw [if_pos (by omega)]
  · rw [upd_ne q, h1]
    unfold zI
    by_cases z : r < i
    · rw [if_pos z, if_pos (by omega)]
    · rw [if_neg z, if_neg (by omega)]
theorem relM_tr0 {s : jS} {m : jM} {z z' pl tr : Nat → Int32} (hR : relM (s_zt s z) m) (h : ∀ r, r < g_zn s → tr r = trv (z' r)) : relM (s_zt s z') (mp_tr (mp_pl m pl) tr) := by
  have hz : mg_zn m = nI (g_zn s) := hR.2.1.2.2.2
  exact relM_z (t := s_zt s z') hR ((zt_11 s z).tr (zt_11 s z')) (fun c => (zt_c s z c).tr (zt_c s z' c)) ⟨rfl, rfl, rfl, rfl, rfl, rfl, rfl, rfl, rfl, rfl, rfl⟩ ⟨rfl, rfl, rfl, rfl, rfl, rfl, rfl, rfl, rfl, rfl, rfl, rfl, rfl⟩ hz h
theorem relM_tr {s : jS} {m : jM} {i : Nat} {v : Int32} {pl : Nat → Int32} (hR : relM (s_zt s (zI s i)) m) (hv : v = trv (zS s i)) : relM (s_zt s (zI s (i + 1))) (mp_tr (mp_pl m pl) (upd (mg_tr m) i v)) := by
  have h := relM_t (n := g_zn s) (z := zI s i) hR rfl rfl
  have h2 := zI_next h hv
  generalize zI s (i + 1) = z' at h2 ⊢
  generalize zI s i = z at hR
  exact relM_tr0 hR h2
theorem relM_scan0 {s : jS} {m : jM} {n : Nat} {z z' : Nat → Int32} (hR : relM (s_zt s z) m) (h : ∀ j, j < n → mg_tr m j = trv (z' j)) : relM (s_zt (s_zn s n) z') (mp_zn m (nI n)) :=
  relM_z (t := s_zt (s_zn s n) z') hR ((zt_11 s z).tr (zz_11 s n z')) (fun c => (zt_c s z c).tr (zz_c s n z' c)) ⟨rfl, rfl, rfl, rfl, rfl, rfl, rfl, rfl, rfl, rfl, rfl⟩ ⟨rfl, rfl, rfl, rfl, rfl, rfl, rfl, rfl, rfl, rfl, rfl, rfl, rfl⟩ rfl h
theorem relM_scan {s : jS} {m : jM} {n : Nat} {z : Nat → Int32} (hR : relM (s_zt s z) m) (h : ∀ j, j < n → mg_tr m j = trv (zS s j)) : relM (s_zt (s_zn s n) (zS s)) (mp_zn m (nI n)) := by
  generalize zS s = z' at h ⊢
  exact relM_scan0 hR h
