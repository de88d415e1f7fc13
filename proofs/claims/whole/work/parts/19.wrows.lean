/-! Writes, with the new world named: its equation, what lies at the written place, what stays. -/
theorem ju_self {w : jw} {a : Nat} {e : va_E} (h : jh w a e) : ju w a e = w := by
  refine Prod.ext rfl ?_
  funext j
  show va_up w.2 a e j = w.2 j
  by_cases q : j = a
  · subst q; rw [va_up_self, h.2]
  · rw [va_up_ne _ _ q]
theorem ju_comm {w : jw} {a b : Nat} {e e' : va_E} (h : a ≠ b) : ju (ju w a e) b e' = ju (ju w b e') a e := by
  refine Prod.ext rfl ?_
  funext j
  show va_up (va_up w.2 a e) b e' j = va_up (va_up w.2 b e') a e j
  by_cases q : j = b
  · subst q
    rw [va_up_self, va_up_ne _ _ (fun z => h z.symm), va_up_self]
  · rw [va_up_ne _ _ q]
    by_cases q2 : j = a
    · subst q2; rw [va_up_self, va_up_self]
    · rw [va_up_ne _ _ q2, va_up_ne _ _ q2, va_up_ne _ _ q]
theorem jnar_rf {c : String} {r : Option Nat} : narrow (.object c) (va_rf r) = va_rf r := by cases r <;> rfl
theorem jfit_rf {c : String} {r : Option Nat} : fits (.object c) (va_rf r) = true := by cases r <;> rfl
section JW
variable {X : jX} {own : String} {cc : ByteArray} {v : Nat × Nat} {ret : Option FieldType} {d0 mc ms : Nat} {Q : State → Prop} {w : jw} {k n pc t : Nat} {lv : List (Nat × Value)} {st : List Value}
theorem j_putW {a ci kx idx : Nat} {fs : List Value} {x : Value} {ty : FieldType} (C : jC X own cc v ret d0 mc ms) (f : jFp own idx ci kx false ty) (d : decode cc pc = .ok (.putfield idx, 3)) (hh : jh w a (eO ci fs)) (hn : narrow ty x = x) (hf : fits ty x = true) (hlen : kx < fs.length) (ht : pc + 3 = t) (K : ∀ w' : jw, w' = ju w a (eO ci (fs.set kx x)) → jh w' a (eO ci (fs.set kx x)) → (∀ b e, b ≠ a → jh w b e → jh w' b e) → J X v Q w' k n t lv st) : J X v Q w k n pc lv (x :: .ref a :: st) :=
  j_put C f d hh hn hf hlen ht (K _ rfl (jh_us hh) (fun _ _ hb h => jh_un h hb))
theorem j_putFW {a ci kx idx : Nat} {fs : List Value} {x : Value} {ty : FieldType} (C : jC X own cc v ret d0 mc ms) (hin : jname X = "<init>") (f : jFp own idx ci kx true ty) (d : decode cc pc = .ok (.putfield idx, 3)) (hh : jh w a (eO ci fs)) (hn : narrow ty x = x) (hf : fits ty x = true) (hlen : kx < fs.length) (ht : pc + 3 = t) (K : ∀ w' : jw, w' = ju w a (eO ci (fs.set kx x)) → jh w' a (eO ci (fs.set kx x)) → (∀ b e, b ≠ a → jh w b e → jh w' b e) → J X v Q w' k n t lv st) : J X v Q w k n pc lv (x :: .ref a :: st) :=
  j_putF C hin f d hh hn hf hlen ht (K _ rfl (jh_us hh) (fun _ _ hb h => jh_un h hb))
theorem j_iastoreW {a N : Nat} {f : Nat → Int32} {i x : Int32} (C : jC X own cc v ret d0 mc ms) (d : decode cc pc = .ok (.iastore, 1)) (hh : jh w a (eI (xG X) N f)) (hi : vp_in i N) (ht : pc + 1 = t) (K : ∀ w' : jw, w' = ju w a (eI (xG X) N (upd f i.toNatClampNeg x)) → jh w' a (eI (xG X) N (upd f i.toNatClampNeg x)) → (∀ b e, b ≠ a → jh w b e → jh w' b e) → J X v Q w' k n t lv st) : J X v Q w k n pc lv (.int x :: .int i :: .ref a :: st) :=
  j_iastore C d hh hi ht (K _ rfl (jh_us hh) (fun _ _ hb h => jh_un h hb))
theorem j_bastoreW {a N : Nat} {f : Nat → Int32} {i x : Int32} (C : jC X own cc v ret d0 mc ms) (d : decode cc pc = .ok (.bastore, 1)) (hh : jh w a (eB (xG X) N f)) (hi : vp_in i N) (ht : pc + 1 = t) (K : ∀ w' : jw, w' = ju w a (eB (xG X) N (upd f i.toNatClampNeg (vp_nar .byte x))) → jh w' a (eB (xG X) N (upd f i.toNatClampNeg (vp_nar .byte x))) → (∀ b e, b ≠ a → jh w b e → jh w' b e) → J X v Q w' k n t lv st) : J X v Q w k n pc lv (.int x :: .int i :: .ref a :: st) :=
  j_bastore C d hh hi ht (K _ rfl (jh_us hh) (fun _ _ hb h => jh_un h hb))
theorem j_zastoreW {a N : Nat} {f : Nat → Int32} {i x : Int32} (C : jC X own cc v ret d0 mc ms) (d : decode cc pc = .ok (.bastore, 1)) (hh : jh w a (eZ (xG X) N f)) (hi : vp_in i N) (ht : pc + 1 = t) (K : ∀ w' : jw, w' = ju w a (eZ (xG X) N (upd f i.toNatClampNeg (vp_nar .boolean x))) → jh w' a (eZ (xG X) N (upd f i.toNatClampNeg (vp_nar .boolean x))) → (∀ b e, b ≠ a → jh w b e → jh w' b e) → J X v Q w' k n t lv st) : J X v Q w k n pc lv (.int x :: .int i :: .ref a :: st) :=
  j_zastore C d hh hi ht (K _ rfl (jh_us hh) (fun _ _ hb h => jh_un h hb))
theorem j_lastoreW {a N : Nat} {f : Nat → Int64} {i : Int32} {x : Int64} (C : jC X own cc v ret d0 mc ms) (d : decode cc pc = .ok (.lastore, 1)) (hh : jh w a (eL (xG X) N f)) (hi : vp_in i N) (ht : pc + 1 = t) (K : ∀ w' : jw, w' = ju w a (eL (xG X) N (vp_updL f i.toNatClampNeg x)) → jh w' a (eL (xG X) N (vp_updL f i.toNatClampNeg x)) → (∀ b e, b ≠ a → jh w b e → jh w' b e) → J X v Q w' k n t lv st) : J X v Q w k n pc lv (.long x :: .int i :: .ref a :: st) :=
  j_lastore C d hh hi ht (K _ rfl (jh_us hh) (fun _ _ hb h => jh_un h hb))
theorem j_aastoreW {a N tk ci : Nat} {o : Option Nat} {r : vw_C} {f : Nat → Option Nat} {i : Int32} (C : jC X own cc v ret d0 mc ms) (d : decode cc pc = .ok (.aastore, 1)) (hh : jh w a (eR (xG X) tk N f)) (hb : ∀ b, o = some b → ∃ fs, jh w b (eO ci fs)) (hc : vwCl[ci]? = some r) (hk : jtyl[tk]? = some (.object r.1)) (hi : vp_in i N) (ht : pc + 1 = t) (K : ∀ w' : jw, w' = ju w a (eR (xG X) tk N (va_up f i.toNatClampNeg o)) → jh w' a (eR (xG X) tk N (va_up f i.toNatClampNeg o)) → (∀ b e, b ≠ a → jh w b e → jh w' b e) → J X v Q w' k n t lv st) : J X v Q w k n pc lv (va_rf o :: .int i :: .ref a :: st) := by
  cases o with
  | none => exact j_aastoreN C d hh hk hi ht (K _ rfl (jh_us hh) (fun _ _ hb h => jh_un h hb))
  | some b =>
    obtain ⟨fs, hb⟩ := hb b rfl
    exact j_aastore C d hh hb hc hk hi ht (K _ rfl (jh_us hh) (fun _ _ hb h => jh_un h hb))
theorem j_newRW {i : Int32} {N tk idx : Nat} {cn : String} (C : jC X own cc v ret d0 mc ms) (d : decode cc pc = .ok (.anewarray idx, 3)) (hw : Cond.classLink own idx cn ∈ jtbl) (ho : cn ∈ jover) (hk2 : jtyl[tk]? = some (.object cn)) (hi : i = nI N) (hN : N < 1000000) (hk : k + 1 ≤ mc) (hn : n + N ≤ ms) (ht : pc + 3 = t) (K : ∀ (a : Nat) (w' : jw), a ∉ w.1 → w' = jn w a (eR (xG X) tk N (fun _ => none)) → jh w' a (eR (xG X) tk N (fun _ => none)) → (∀ b e, jh w b e → jh w' b e) → J X v Q w' (k + 1) (n + N) t lv (.ref a :: st)) : J X v Q w k n pc lv (.int i :: st) :=
  j_newR C d hw ho hk2 hi hN hk hn ht (fun a ha => K a _ ha rfl jh_ns (fun _ _ h => jh_nn h ha))
theorem j_newIW {i : Int32} {N : Nat} (C : jC X own cc v ret d0 mc ms) (d : decode cc pc = .ok (.newarray .int, 2)) (hw : Cond.arrayClass .int ∈ jtbl) (hi : i = nI N) (hN : N < 1000000) (hk : k + 1 ≤ mc) (hn : n + N ≤ ms) (ht : pc + 2 = t) (K : ∀ (a : Nat) (w' : jw), a ∉ w.1 → w' = jn w a (eI (xG X) N (fun _ => 0)) → jh w' a (eI (xG X) N (fun _ => 0)) → (∀ b e, jh w b e → jh w' b e) → J X v Q w' (k + 1) (n + N) t lv (.ref a :: st)) : J X v Q w k n pc lv (.int i :: st) :=
  j_newI C d hw hi hN hk hn ht (fun a ha => K a _ ha rfl jh_ns (fun _ _ h => jh_nn h ha))
theorem j_newBW {i : Int32} {N : Nat} (C : jC X own cc v ret d0 mc ms) (d : decode cc pc = .ok (.newarray .byte, 2)) (hw : Cond.arrayClass .byte ∈ jtbl) (hi : i = nI N) (hN : N < 1000000) (hk : k + 1 ≤ mc) (hn : n + N ≤ ms) (ht : pc + 2 = t) (K : ∀ (a : Nat) (w' : jw), a ∉ w.1 → w' = jn w a (eB (xG X) N (fun _ => 0)) → jh w' a (eB (xG X) N (fun _ => 0)) → (∀ b e, jh w b e → jh w' b e) → J X v Q w' (k + 1) (n + N) t lv (.ref a :: st)) : J X v Q w k n pc lv (.int i :: st) :=
  j_newB C d hw hi hN hk hn ht (fun a ha => K a _ ha rfl jh_ns (fun _ _ h => jh_nn h ha))
theorem j_newLW {i : Int32} {N : Nat} (C : jC X own cc v ret d0 mc ms) (d : decode cc pc = .ok (.newarray .long, 2)) (hw : Cond.arrayClass .long ∈ jtbl) (hi : i = nI N) (hN : N < 1000000) (hk : k + 1 ≤ mc) (hn : n + N ≤ ms) (ht : pc + 2 = t) (K : ∀ (a : Nat) (w' : jw), a ∉ w.1 → w' = jn w a (eL (xG X) N (fun _ => 0)) → jh w' a (eL (xG X) N (fun _ => 0)) → (∀ b e, jh w b e → jh w' b e) → J X v Q w' (k + 1) (n + N) t lv (.ref a :: st)) : J X v Q w k n pc lv (.int i :: st) :=
  j_newL C d hw hi hN hk hn ht (fun a ha => K a _ ha rfl jh_ns (fun _ _ h => jh_nn h ha))
theorem j_newZW {i : Int32} {N : Nat} (C : jC X own cc v ret d0 mc ms) (d : decode cc pc = .ok (.newarray .boolean, 2)) (hw : Cond.arrayClass .boolean ∈ jtbl) (hi : i = nI N) (hN : N < 1000000) (hk : k + 1 ≤ mc) (hn : n + N ≤ ms) (ht : pc + 2 = t) (K : ∀ (a : Nat) (w' : jw), a ∉ w.1 → w' = jn w a (eZ (xG X) N (fun _ => 0)) → jh w' a (eZ (xG X) N (fun _ => 0)) → (∀ b e, jh w b e → jh w' b e) → J X v Q w' (k + 1) (n + N) t lv (.ref a :: st)) : J X v Q w k n pc lv (.int i :: st) :=
  j_newZ C d hw hi hN hk hn ht (fun a ha => K a _ ha rfl jh_ns (fun _ _ h => jh_nn h ha))
theorem j_newW {idx ci : Nat} {fs : List Value} (C : jC X own cc v ret d0 mc ms) (f : jNw own idx ci fs) (d : decode cc pc = .ok (.new idx, 3)) (hk : k + 1 ≤ mc) (hn : n + fs.length ≤ ms) (ht : pc + 3 = t) (K : ∀ (a : Nat) (w' : jw), a ∉ w.1 → w' = jn w a (eO ci fs) → jh w' a (eO ci fs) → (∀ b e, jh w b e → jh w' b e) → J X v Q w' (k + 1) (n + fs.length) t lv (.ref a :: st)) : J X v Q w k n pc lv st :=
  j_new C f d hk hn ht (fun a ha => K a _ ha rfl jh_ns (fun _ _ h => jh_nn h ha))
/-- Math.min, System.arraycopy of bytes (Arrays.copyOf calls them) -/
theorem j_min {idx : Nat} {x y : Int32} (C : jC X own cc v ret d0 mc ms) (d : decode cc pc = .ok (.invokestatic idx, 3)) (f1 : Cond.methodLink own idx Lib.Math.min.name ∈ jtbl) (f2 : Cond.static Lib.Math.min.name ∈ jtbl) (f3 : Cond.initialized "java/lang/Math" ∈ jtbl) (f4 : Cond.code Lib.Math.min.name Lib.Math.min.code 2 (some .int) ∈ jtbl) (hd : 1 ≤ d0) (hst : (st.map fun v => v.category).sum ≤ 8) (hk : k ≤ mc) (hn : n ≤ ms) (ht : pc + 3 = t) (K : J X v Q w k n t lv (.int (if y < x then y else x) :: st)) : J X v Q w k n pc lv (.int y :: .int x :: st) := by
  obtain ⟨p, l, e, R, s, m, args, below, meth, c, G, A⟩ := X
  intro H locs ls hP hD hS hl
  subst ht
  have hR := C.2.2.2.2.2.2.2.2.2.2.2
  exact va_mmin C.1 C.2.1 (C.2.2.1.trans hl.1.1.symm) C.2.2.2.1 (C.2.2.2.2.1 _ f1) (C.2.2.2.2.1 _ f2) (C.2.2.2.2.1 _ f3) (C.2.2.2.2.1 _ f4) (by omega) (by omega) (by omega) (by omega) d (K H locs ls hP hD hS hl)
theorem j_copyB {idx a0 a1 n0 n1 : Nat} {f g : Nat → Int32} {i : Nat} (C : jC X own cc v ret d0 mc ms) (d : decode cc pc = .ok (.invokestatic idx, 3)) (f1 : Cond.methodLink own idx arraycopyName ∈ jtbl) (f2 : Cond.native arraycopyName ∈ jtbl) (f3 : Cond.static arraycopyName ∈ jtbl) (f4 : Cond.initialized "java/lang/System" ∈ jtbl) (h0 : jh w a0 (eB (xG X) n0 f)) (h1 : jh w a1 (eB (xG X) n1 g)) (hi0 : i ≤ n0) (hi1 : i ≤ n1) (hi : i < 1000000) (hfit : ∀ j, fits .byte (.int (f j)) = true) (hd : 2 ≤ d0) (hst : (st.map fun v => v.category).sum ≤ 8) (ht : pc + 3 = t) (K : ∀ w' : jw, w' = ju w a1 (eB (xG X) n1 (va_cpy f g 0 0 i)) → jh w' a1 (eB (xG X) n1 (va_cpy f g 0 0 i)) → (∀ b e, b ≠ a1 → jh w b e → jh w' b e) → J X v Q w' k n t lv st) : J X v Q w k n pc lv (.int (nI i) :: .int 0 :: .ref a1 :: .int 0 :: .ref a0 :: st) := by
  have K := K _ rfl (jh_us h1) (fun _ _ hb h => jh_un h hb)
  obtain ⟨p, l, e, R, s, m, args, below, meth, c, G, A⟩ := X
  intro H locs ls hP hD hS hl
  subst ht
  have hR := C.2.2.2.2.2.2.2.2.2.2.2
  obtain ⟨q0, hq0⟩ := jh_at h0
  obtain ⟨q1, hq1⟩ := jh_at h1
  have e0 : (0 : Int32).toNatClampNeg = 0 := rfl
  have ei : (nI i).toNatClampNeg = i := nI_clamp (by omega)
  refine va_copyi C.1 C.2.1 (C.2.2.1.trans hl.1.1.symm) C.2.2.2.1 (C.2.2.2.2.1 _ f1) (C.2.2.2.2.1 _ f2) (C.2.2.2.2.1 _ f3) (C.2.2.2.2.1 _ f4) C.2.2.2.2.2.1 hP hD hS q0 q1 1 1 (ty := .byte) hq0 hq1 (jty rfl) (jty rfl) rfl (by decide) (by decide) (nI_pos (by omega)) (by rw [e0, ei]; omega) (by rw [e0, ei]; omega) (fun j _ => hfit _) (by omega) ?_ d (fun H1 locs1 hP1 hD1 hS1 => ?_)
  · have hwd : nativeFrameWords "java/lang/System" "arraycopy" 5 + 11 ≤ 60 := by decide +kernel
    omega
  · rw [e0, ei, jws_set hD h1 hq1] at hP1 hD1
    exact K H1 locs1 ls hP1 hD1 hS1 hl
end JW
