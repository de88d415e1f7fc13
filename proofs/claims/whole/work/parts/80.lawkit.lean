/-! The law's world: the class's cells and the reference's, side by side; calls that touch one of them. -/
def jj (wa wb : jw) : jw := (wa.1 ++ wb.1, fun a => if a ∈ wa.1 then wa.2 a else wb.2 a)
theorem jj_app {wa wb : jw} (h : ∀ a, a ∈ wa.1 → a ∉ wb.1) : jws (jj wa wb) = jws wa ++ jws wb := by
  show va_pl (wa.1 ++ wb.1) (fun a => if a ∈ wa.1 then wa.2 a else wb.2 a) = va_pl wa.1 wa.2 ++ va_pl wb.1 wb.2
  unfold va_pl
  rw [List.map_append]
  congr 1
  · refine List.map_congr_left (fun a ha => ?_)
    show (a, if a ∈ wa.1 then wa.2 a else wb.2 a) = (a, wa.2 a)
    rw [if_pos ha]
  · refine List.map_congr_left (fun a ha => ?_)
    show (a, if a ∈ wa.1 then wa.2 a else wb.2 a) = (a, wb.2 a)
    rw [if_neg (fun z => h a z ha)]
theorem jws_k {w : jw} {k a : Nat} (h : w.1[k]? = some a) : (jws w)[k]? = some (a, w.2 a) := by
  show (w.1.map (fun a => (a, w.2 a)))[k]? = _
  rw [List.getElem?_map, h]
  rfl
theorem jws_ad {w : jw} {k : Nat} {q : Nat × va_E} (h : (jws w)[k]? = some q) : q.1 ∈ w.1 := by
  have h1 : (w.1.map (fun a => (a, w.2 a)))[k]? = some q := h
  rw [List.getElem?_map] at h1
  cases h2 : w.1[k]? with
  | none => rw [h2] at h1; cases h1
  | some a =>
    rw [h2] at h1
    cases h1
    exact List.mem_of_getElem? h2
theorem jws_in {w : jw} {a : Nat} (h : a ∈ w.1) : ∃ k : Nat, (jws w)[k]? = some (a, w.2 a) := by
  obtain ⟨i, hi, e⟩ := List.getElem_of_mem h
  exact ⟨i, jws_k (by rw [List.getElem?_eq_getElem hi, e])⟩
theorem jj_dis {A : Nat → Prop} {wa wb : jw} (hD : va_D A (jws (jj wa wb))) : ∀ a, a ∈ wa.1 → a ∉ wb.1 := by
  intro a ha hb
  obtain ⟨i, hi, e1⟩ := List.getElem_of_mem ha
  obtain ⟨j, hj, e2⟩ := List.getElem_of_mem hb
  have h1 : (jj wa wb).1[i]? = some a := by
    show (wa.1 ++ wb.1)[i]? = _
    rw [List.getElem?_append_left hi, List.getElem?_eq_getElem hi, e1]
  have h2 : (jj wa wb).1[wa.1.length + j]? = some a := by
    show (wa.1 ++ wb.1)[wa.1.length + j]? = _
    rw [List.getElem?_append_right (by omega), show wa.1.length + j - wa.1.length = j by omega, List.getElem?_eq_getElem hj, e2]
  have := hD.1 _ _ _ _ (jws_k h1) (jws_k h2) rfl
  omega
theorem gl_l {w1 w2 : va_W} {k : Nat} {q : Nat × va_E} (h : w1[k]? = some q) : (w1 ++ w2)[k]? = some q := by
  rw [List.getElem?_append_left (List.getElem?_eq_some_iff.mp h).1]; exact h
theorem gl_r {w1 w2 : va_W} {k : Nat} {q : Nat × va_E} (h : w2[k]? = some q) : (w1 ++ w2)[w1.length + k]? = some q := by
  rw [List.getElem?_append_right (by omega), show w1.length + k - w1.length = k by omega]; exact h
theorem D_l {A : Nat → Prop} {w1 w2 : va_W} (h : va_D A (w1 ++ w2)) : va_D A w1 := ⟨fun i j p q hi hj e => h.1 i j p q (gl_l hi) (gl_l hj) e, fun k q hk => h.2 k q (gl_l hk)⟩
theorem D_r {A : Nat → Prop} {w1 w2 : va_W} (h : va_D A (w1 ++ w2)) : va_D A w2 := ⟨fun i j p q hi hj e => by
  have := h.1 _ _ p q (gl_r hi) (gl_r hj) e
  omega, fun k q hk => h.2 _ q (gl_r hk)⟩
/-- what is beside the world that was called on stays -/
theorem beside {G : jG} {wx wx' wy : jw} {H H1 : Heap} (hPy : va_P G.1 vwCl (jws wy) H) (dis : ∀ a, a ∈ wx.1 → a ∉ wy.1) (keep : ∀ q, q < H.size → ¬ va_A (jws wx) H.size q → H1[q]? = H[q]?) (hD1 : va_D (va_A (jws wx) H.size) (jws wx')) : va_P G.1 vwCl (jws wy) H1 ∧ ∀ a, a ∈ wx'.1 → a ∉ wy.1 := by
  have key : ∀ a, a ∈ wy.1 → a < H.size ∧ ¬ va_A (jws wx) H.size a := fun a ha => by
    obtain ⟨k, hk⟩ := jws_in ha
    have hlt := (hPy k _ hk).lt
    refine ⟨hlt, fun z => ?_⟩
    rcases z with ⟨i, e, hi⟩ | z
    · exact dis a (jws_ad hi) ha
    · exact absurd hlt (Nat.not_lt.mpr z)
  refine ⟨hPy.kept (fun k q hk => ?_), fun a ha hb => ?_⟩
  · obtain ⟨h1, h2⟩ := key q.1 (jws_ad hk)
    exact keep _ h1 h2
  · obtain ⟨k, hk⟩ := jws_in ha
    exact (key a hb).2 (hD1.2 k _ hk)
theorem j_back2 {Q : State → Prop} {pc : Nat} {p : Program} {l : Launch} {e : Env} {R : Room} {s : State} {m : MethodId} {args : Array Value} {below : List Frame} {meth : Method} {c : Code} {H : Heap} {locs : List Loc} {cells slots mc' ms' : Nat} {ls : Array Slot} {st0 rest : List Value} {G : jG} {A0 A1 : Nat → Prop} {post : Option Value → jw → Prop} {a : Array Value}
    (hr : va_Run p l e R s m args below meth c H locs cells slots mc' ms' (F0 m pc ls st0) rest (jQc G A1 post a) A1) (hS : va_S A0 s.heap H locs) (hA : ∀ q, A1 q → A0 q)
    (kk : ∀ (r : Option Value) (w' : jw) (H1 : Heap) (locs1 : List Loc), post r w' → va_P G.1 vwCl (jws w') H1 → va_D A1 (jws w') → va_S A0 s.heap H1 locs1 → (∀ q, q < H.size → ¬ A1 q → H1[q]? = H[q]?) → W p l e R s m args below meth c H1 locs1 (cells + mc') (slots + ms') Q (F0 m (pc + 3) ls (jst r rest))) : W p l e R s m args below meth c H locs cells slots Q (F0 m pc ls st0) := by
  intro T hT X
  obtain ⟨v, st₀, t, T', L, h0, X', hL, e1, e2, ⟨⟨r, w', hv, hp, hP', hD'⟩, hz, hk⟩, st⟩ := hr T hT X
  cases hv
  rw [h0] at hz hk
  obtain ⟨t2, a1, b1⟩ := kk v w' T'.heap (locs ++ L) hp (by rw [e1]; exact hP') hD'
    ⟨Nat.le_trans hS.1 (by rw [e1]; exact hz), fun q h1 h2 => by rw [e1, hk q (Nat.lt_of_lt_of_le h1 hS.1) (fun z => h2 (hA q z))]; exact hS.2.1 q h1 h2, fun q hq => by
      rcases List.mem_append.mp hq with h | h
      · exact hS.2.2 q h
      · exact hA _ (hL q h)⟩ (fun q h1 h2 => by rw [e1]; exact hk q h1 h2) T' rfl X'
  refine ⟨t2, st t2 ?_, b1⟩
  cases v <;> exact a1
section LK
variable {X : jX} {own : String} {cc : ByteArray} {v : Nat × Nat} {ret : Option FieldType} {d0 mc ms : Nat} {Q : State → Prop} {w wa wb : jw} {k n pc t : Nat} {lv : List (Nat × Value)} {st : List Value}
theorem j_world {w' : jw} (h : jws w = jws w') (K : J X v Q w' k n pc lv st) : J X v Q w k n pc lv st := by
  obtain ⟨p, l, e, R, s, m, args, below, meth, c, G, A⟩ := X
  intro H locs ls hP hD hS hl
  rw [h] at hP hD
  exact K H locs ls hP hD hS hl
theorem jn_jj {a : Nat} {e : va_E} (h : a ∉ w.1) : jws (jn w a e) = jws (jj w ([a], fun _ => e)) := by
  have hd : ∀ b, b ∈ w.1 → b ∉ ([a] : List Nat) := fun b hb z => h ((List.mem_singleton.mp z) ▸ hb)
  rw [← jws_new h, jj_app (wa := w) (wb := ([a], fun _ => e)) hd]
  rfl
theorem j_callA {y : MethodName} {bytes : ByteArray} {mL d' mc' ms' idx : Nat} {rt : Option FieldType} {Pre : jG → jw → List Value → Prop} {Post : jG → jw → List Value → Option Value → jw → Prop} {As st0 : List Value} {b ci : Nat} {fs : List Value} {cq : vw_C} (C : jC X own cc v ret d0 mc ms) (M : MC X.2.1 y bytes mL rt d' mc' ms' Pre Post) (d : decode cc pc = .ok (.invokevirtual idx, 3)) (f : jB y bytes mL rt As.length) (f4 : Cond.methodLink own idx y ∈ jtbl) (fv : jBV y) (hb : jh wa b (eO ci fs)) (hc : vwCl[ci]? = some cq) (hcq : y.cls = cq.1) (hst : st0 = As.reverse ++ .ref b :: st) (hsum : (st.map fun v => v.category).sum ≤ 8) (hd : d' + 1 ≤ d0) (hk : k + mc' ≤ mc) (hn : n + ms' ≤ ms) (hpre : Pre (xG X) wa (.ref b :: As)) (ht : pc + 3 = t) (K : ∀ (r : Option Value) (wa' : jw), Post (xG X) wa (.ref b :: As) r wa' → J X v Q (jj wa' wb) (k + mc') (n + ms') t lv (jst r st)) : J X v Q (jj wa wb) k n pc lv st0 := by
  obtain ⟨p, l, e, R, s, m, args, below, meth, c, G, A⟩ := X
  intro H locs ls hP hD hS hl
  subst ht
  subst hst
  have dis := jj_dis hD
  rw [jj_app dis] at hP hD
  have hPa : va_P G.1 vwCl (jws wa) H := fun k q hk => hP k q (gl_l hk)
  have hPb : va_P G.1 vwCl (jws wb) H := fun k q hk => hP _ q (gl_r hk)
  have hDa := D_l hD
  have hDb := D_r hD
  have hR := C.2.2.2.2.2.2.2.2.2.2.2
  have hin := j_in hDa hS C.2.2.2.2.2.2.1
  have hpc := j_pre (av := .ref b :: As) hPa hDa hS C.2.2.2.2.2.1 C.2.2.2.2.2.2.1 C.2.2.2.2.2.2.2.2.1 C.2.2.2.2.2.2.2.2.2.1
  have hroom : (jroom d' mc' ms').frames + 1 ≤ R.frames ∧ 8 + (mL + 11) + (jroom d' mc' ms').locals ≤ R.locals := by
    have h1 := f.2.2.2
    have h2 : (jroom d' mc' ms').frames = d' := rfl
    have h3 : (jroom d' mc' ms').locals = 40 * d' := rfl
    rw [h2, h3]
    omega
  obtain ⟨q, hq⟩ := jh_at hb
  have hrec := va_recv C.2.2.2.2.2.1 hPa hc hq
  exact j_back2 (va_runV (b := b) (C := cq.1) (cc := cc) (Ts := jtbl) (own := own) (nL := v.1) (As := As) (rest := st) (n := As.length) ⟨C.1, C.2.1, C.2.2.1, C.2.2.2.1, C.2.2.2.2.1⟩ (M G wa (.ref b :: As) H.size hpre) ⟨(callB_of As.length C.2.2.2.2.1 (j_good f.1) rfl rfl rfl (C.2.2.2.2.1 _ f.2.1) (C.2.2.2.2.1 _ f4) f.2.2.1 hroom), C.2.2.2.2.1 _ fv.1, C.2.2.2.2.1 _ (hcq ▸ fv.2)⟩ ⟨jPc_blind, hrec, hpc⟩ rfl rfl hl.1.1 rfl (lv_room hsum) d ⟨Nat.le_trans hk hR.2.2.1, Nat.le_trans hn hR.2.2.2⟩) hS hin (fun r wa' H1 locs1 hp hP1 hD1 hS1 keep => by
    obtain ⟨g1, g2⟩ := beside hPb dis keep hD1
    have e1 := jj_app g2
    exact K r wa' hp H1 locs1 ls (by rw [e1]; exact hP1.app g1) (by rw [e1]; exact va_D.app (hD1.weaken (fun _ q _ h => hin q.1 h)) hDb (fun i j x y hi hj z => g2 x.1 (jws_ad hi) (z ▸ jws_ad hj))) hS1 hl)
theorem j_callB {y : MethodName} {bytes : ByteArray} {mL d' mc' ms' idx : Nat} {rt : Option FieldType} {Pre : jG → jw → List Value → Prop} {Post : jG → jw → List Value → Option Value → jw → Prop} {As st0 : List Value} {b ci : Nat} {fs : List Value} {cq : vw_C} (C : jC X own cc v ret d0 mc ms) (M : MC X.2.1 y bytes mL rt d' mc' ms' Pre Post) (d : decode cc pc = .ok (.invokevirtual idx, 3)) (f : jB y bytes mL rt As.length) (f4 : Cond.methodLink own idx y ∈ jtbl) (fv : jBV y) (hb : jh wb b (eO ci fs)) (hc : vwCl[ci]? = some cq) (hcq : y.cls = cq.1) (hst : st0 = As.reverse ++ .ref b :: st) (hsum : (st.map fun v => v.category).sum ≤ 8) (hd : d' + 1 ≤ d0) (hk : k + mc' ≤ mc) (hn : n + ms' ≤ ms) (hpre : Pre (xG X) wb (.ref b :: As)) (ht : pc + 3 = t) (K : ∀ (r : Option Value) (wb' : jw), Post (xG X) wb (.ref b :: As) r wb' → J X v Q (jj wa wb') (k + mc') (n + ms') t lv (jst r st)) : J X v Q (jj wa wb) k n pc lv st0 := by
  obtain ⟨p, l, e, R, s, m, args, below, meth, c, G, A⟩ := X
  intro H locs ls hP hD hS hl
  subst ht
  subst hst
  have dis := jj_dis hD
  rw [jj_app dis] at hP hD
  have hPa : va_P G.1 vwCl (jws wa) H := fun k q hk => hP k q (gl_l hk)
  have hPb : va_P G.1 vwCl (jws wb) H := fun k q hk => hP _ q (gl_r hk)
  have hDa := D_l hD
  have hDb := D_r hD
  have hR := C.2.2.2.2.2.2.2.2.2.2.2
  have hin := j_in hDb hS C.2.2.2.2.2.2.1
  have hpc := j_pre (av := .ref b :: As) hPb hDb hS C.2.2.2.2.2.1 C.2.2.2.2.2.2.1 C.2.2.2.2.2.2.2.2.1 C.2.2.2.2.2.2.2.2.2.1
  have hroom : (jroom d' mc' ms').frames + 1 ≤ R.frames ∧ 8 + (mL + 11) + (jroom d' mc' ms').locals ≤ R.locals := by
    have h1 := f.2.2.2
    have h2 : (jroom d' mc' ms').frames = d' := rfl
    have h3 : (jroom d' mc' ms').locals = 40 * d' := rfl
    rw [h2, h3]
    omega
  obtain ⟨q, hq⟩ := jh_at hb
  have hrec := va_recv C.2.2.2.2.2.1 hPb hc hq
  exact j_back2 (va_runV (b := b) (C := cq.1) (cc := cc) (Ts := jtbl) (own := own) (nL := v.1) (As := As) (rest := st) (n := As.length) ⟨C.1, C.2.1, C.2.2.1, C.2.2.2.1, C.2.2.2.2.1⟩ (M G wb (.ref b :: As) H.size hpre) ⟨(callB_of As.length C.2.2.2.2.1 (j_good f.1) rfl rfl rfl (C.2.2.2.2.1 _ f.2.1) (C.2.2.2.2.1 _ f4) f.2.2.1 hroom), C.2.2.2.2.1 _ fv.1, C.2.2.2.2.1 _ (hcq ▸ fv.2)⟩ ⟨jPc_blind, hrec, hpc⟩ rfl rfl hl.1.1 rfl (lv_room hsum) d ⟨Nat.le_trans hk hR.2.2.1, Nat.le_trans hn hR.2.2.2⟩) hS hin (fun r wb' H1 locs1 hp hP1 hD1 hS1 keep => by
    obtain ⟨g1, g2⟩ := beside hPa (fun a z1 z2 => dis a z2 z1) keep hD1
    have e1 := jj_app (wa := wa) (wb := wb') (fun a z1 z2 => g2 a z2 z1)
    exact K r wb' hp H1 locs1 ls (by rw [e1]; exact g1.app hP1) (by rw [e1]; exact va_D.app hDa (hD1.weaken (fun _ q _ h => hin q.1 h)) (fun i j x y hi hj z => g2 y.1 (jws_ad hj) (z ▸ jws_ad hi))) hS1 hl)
theorem j_callIB {y : MethodName} {bytes : ByteArray} {mL d' mc' ms' idx : Nat} {Pre : jG → jw → List Value → Prop} {Post : jG → jw → List Value → Option Value → jw → Prop} {As st0 : List Value} {b : Nat} (C : jC X own cc v ret d0 mc ms) (M : MC X.2.1 y bytes mL none d' mc' ms' Pre Post) (d : decode cc pc = .ok (.invokespecial idx, 3)) (f : jB y bytes mL none As.length) (f4 : Cond.methodLink own idx y ∈ jtbl) (fi : Cond.instanceMethod y ∈ jtbl) (hy : y.name = "<init>") (hst : st0 = As.reverse ++ .ref b :: st) (hsum : (st.map fun v => v.category).sum ≤ 8) (hd : d' + 1 ≤ d0) (hk : k + mc' ≤ mc) (hn : n + ms' ≤ ms) (hpre : Pre (xG X) wb (.ref b :: As)) (ht : pc + 3 = t) (K : ∀ (r : Option Value) (wb' : jw), Post (xG X) wb (.ref b :: As) r wb' → J X v Q (jj wa wb') (k + mc') (n + ms') t lv (jst r st)) : J X v Q (jj wa wb) k n pc lv st0 := by
  obtain ⟨p, l, e, R, s, m, args, below, meth, c, G, A⟩ := X
  intro H locs ls hP hD hS hl
  subst ht
  subst hst
  have dis := jj_dis hD
  rw [jj_app dis] at hP hD
  have hPa : va_P G.1 vwCl (jws wa) H := fun k q hk => hP k q (gl_l hk)
  have hPb : va_P G.1 vwCl (jws wb) H := fun k q hk => hP _ q (gl_r hk)
  have hDa := D_l hD
  have hDb := D_r hD
  have hR := C.2.2.2.2.2.2.2.2.2.2.2
  have hin := j_in hDb hS C.2.2.2.2.2.2.1
  have hpc := j_pre (av := .ref b :: As) hPb hDb hS C.2.2.2.2.2.1 C.2.2.2.2.2.2.1 C.2.2.2.2.2.2.2.2.1 C.2.2.2.2.2.2.2.2.2.1
  have hroom : (jroom d' mc' ms').frames + 1 ≤ R.frames ∧ 8 + (mL + 11) + (jroom d' mc' ms').locals ≤ R.locals := by
    have h1 := f.2.2.2
    have h2 : (jroom d' mc' ms').frames = d' := rfl
    have h3 : (jroom d' mc' ms').locals = 40 * d' := rfl
    rw [h2, h3]
    omega
  exact j_back2 (va_runI (b := b) (cc := cc) (Ts := jtbl) (own := own) (nL := v.1) (As := As) (rest := st) (n := As.length) ⟨C.1, C.2.1, C.2.2.1, C.2.2.2.1, C.2.2.2.2.1⟩ (M G wb (.ref b :: As) H.size hpre) ⟨(callB_of As.length C.2.2.2.2.1 (j_good f.1) rfl rfl rfl (C.2.2.2.2.1 _ f.2.1) (C.2.2.2.2.1 _ f4) f.2.2.1 hroom), hy, C.2.2.2.2.1 _ fi⟩ ⟨jPc_blind, hpc⟩ rfl rfl hl.1.1 rfl (lv_room hsum) d ⟨Nat.le_trans hk hR.2.2.1, Nat.le_trans hn hR.2.2.2⟩) hS hin (fun r wb' H1 locs1 hp hP1 hD1 hS1 keep => by
    obtain ⟨g1, g2⟩ := beside hPa (fun a z1 z2 => dis a z2 z1) keep hD1
    have e1 := jj_app (wa := wa) (wb := wb') (fun a z1 z2 => g2 a z2 z1)
    exact K r wb' hp H1 locs1 ls (by rw [e1]; exact g1.app hP1) (by rw [e1]; exact va_D.app hDa (hD1.weaken (fun _ q _ h => hin q.1 h)) (fun i j x y hi hj z => g2 y.1 (jws_ad hj) (z ▸ jws_ad hi))) hS1 hl)
/-- the script, which no cell of the world is -/
def jSc : jX → Nat → Nat → (Nat → Int32) → Prop
  | (_, _, _, _, s, _, _, _, _, _, _, A), b, L, xs => va_X b L xs s s.heap ∧ b < s.heap.size ∧ ¬ A b
theorem j_sld {b L N : Nat} {xs : Nat → Int32} {i : Int32} (C : jC X own cc v ret d0 mc ms) (d : decode cc pc = .ok (.iaload, 1)) (hX : jSc X b L xs) (hi : i = nI N) (hN : N < L) (hL : L < 2 ^ 31) (ht : pc + 1 = t) (K : J X v Q w k n t lv (.int (xs N) :: st)) : J X v Q w k n pc lv (.int i :: .ref b :: st) := by
  obtain ⟨p, l, e, R, s, m, args, below, meth, c, G, A⟩ := X
  intro H locs ls hP hD hS hl
  subst ht
  subst hi
  refine va_sld C.1 C.2.1 hX.1 hX.2.1 hX.2.2 hS (vp_in_nI hN hL) d ?_
  rw [nI_clamp (by omega)]
  exact K H locs ls hP hD hS hl
theorem j_slen {b L : Nat} {xs : Nat → Int32} (C : jC X own cc v ret d0 mc ms) (d : decode cc pc = .ok (.arraylength, 1)) (hX : jSc X b L xs) (ht : pc + 1 = t) (K : J X v Q w k n t lv (.int (nI L) :: st)) : J X v Q w k n pc lv (.ref b :: st) := by
  obtain ⟨p, l, e, R, s, m, args, below, meth, c, G, A⟩ := X
  intro H locs ls hP hD hS hl
  subst ht
  exact va_slen C.1 C.2.1 hX.1 hX.2.1 hX.2.2 hS d (K H locs ls hP hD hS hl)
end LK
theorem RepC.o {G : jG} {w : jw} {o : Nat} {s : jS} (h : RepC G w o s) : ∃ fs, jh w o (eO cT fs) := by
  obtain ⟨q, un, fc, ft, fl, fs, bs, fw, fr, fu, hRK⟩ := h
  exact ⟨_, hRK.2.1⟩
theorem RepM.o {G : jG} {w : jw} {o : Nat} {s : jS} (h : RepM G w o s) : ∃ fs, jh w o (eO cM fs) := by
  obtain ⟨q, m, h1, -⟩ := h
  exact ⟨_, h1.1⟩
theorem i_end {L j : Nat} (hL : L ≤ 3072) (hj : 6 * j ≤ 3078) : nI L - nI 6 < nI (6 * j) ↔ L < 6 * j + 6 := by
  rw [Int32.lt_iff_toInt_lt, pk_sub_toInt (by omega) (by omega), nI_toInt (by omega)]
  omega
