/-! From the law's entry. -/
theorem nest_in : ∀ w ∈ jnest, w ∈ lw_tbl := by decide +kernel
theorem over_in : ∀ c ∈ jover, Cond.arrayOver (.object c) ∈ lw_tbl := by decide +kernel
theorem stat_in : Cond.laysStatic "TruthScan" "NO_TEXT" "[B" ∈ lw_tbl := by decide +kernel
/-- an array class, of a word of the tables -/
theorem arr_p {args : Array Value} {s : State} {ty : FieldType} (h : (Cond.arrayClass ty).before args s = true) : ∃ (cA : ClassId) (kA : Class) (comp : ClassId), s.vm.findClass ("[" ++ ty.toString) = some cA ∧ s.vm.classes[cA]? = some kA ∧ kA.kind = .array comp ty := Cond.arrayClass_spec h
theorem arr_t {s : State} {cA comp : ClassId} {kA : Class} {ty : FieldType} (h2 : s.vm.classes[cA]? = some kA) (h3 : kA.kind = .array comp ty) : ArrOfT s cA ty := fun n z => ⟨fun k h => (by cases h), kA, h2, comp, h3⟩
theorem arr_o {s : State} {C : String} (h : va_AO C s) : ∃ cA : ClassId, ArrOfT s cA (.object C) ∧ va_RA s cA (.object C) := by
  obtain ⟨comp, cA, kA, h1, -, h3, h4, h5⟩ := Cond.arrayOver_spec h
  exact ⟨cA, arr_t h3 h4, kA, comp, h3, h4, h1, h5⟩
theorem len_0 {args : Array Value} {s : State} {t : Term} (h : (Cond.eq (.length t) (.int 0)).before args s = true) : (Term.length t).eval args s none [] s = some (.int 0) := by
  cases hv : (Term.length t).eval args s none [] s with
  | none => simp [Cond.before, Cond.holds, Cond.value, hv] at h
  | some v =>
    cases v with
    | int x =>
      have e := Cond.eq_ints hv (show (Term.int 0).eval args s none [] s = some (.int 0) from rfl)
      simp [Cond.before, Cond.holds, e] at h
      rw [h]
    | _ => simp [Cond.before, Cond.holds, Cond.value, hv, Term.int_eval] at h
set_option maxHeartbeats 4000000 in
/-- from the entry, for every script of at most 3072 ints, the law comes to its end with true -/
theorem whole_start {p : Program} {e : Env} {s : State} {m : MethodId} {below : List Frame} {meth : Method} {c : Code} (l : Launch) {b L : Nat} {xs : Nat → Int32} (hL : L ≤ 3072) (C0 : lw_At p s m meth c b L xs) : W p l e room_1 s m #[Value.ref b] below meth c s.heap [] 0 0 (lw_Z below #[Value.ref b] s) (entryFrame m ([Value.ref b] : List Value).toArray 4) := by
  obtain ⟨hx, hb, hr, hml, hown, hts, hX, hbl, hlocks, hgv⟩ := id C0
  have hj : ∀ w ∈ jtbl, w.before #[Value.ref b] s = true := fun w hw => hts w (List.mem_filter.mp hw).1
  have hA0 : ∀ a : Nat, a < s.heap.size → ¬ (fun q : Nat => s.heap.size ≤ q) a := fun a h => Nat.not_le.mpr h
  obtain ⟨c0, i0, k0⟩ := u_known (C := RT) (T := FT) (N := 13) (n := 13) hj in_T (hj _ ii_T)
  obtain ⟨c1, i1, k1⟩ := u_known (C := RC) (T := FC) (N := 12) (n := 12) hj in_C (hj _ ii_C)
  obtain ⟨c2, i2, k2⟩ := u_known (C := RS) (T := FS) (N := 7) (n := 7) hj in_S (hj _ ii_S)
  obtain ⟨c3, i3, k3⟩ := u_known (C := RV) (T := FV) (N := 3) (n := 3) hj in_V (hj _ ii_V)
  obtain ⟨c4, i4, k4⟩ := u_known (C := RM) (T := FM) (N := 28) (n := 28) hj in_M (hj _ ii_M)
  obtain ⟨D, hKc⟩ : ∃ D : va_G, ∀ (k : Nat) (q : vw_C), vwCl[k]? = some q → u_Kn s q.1 q.2.1 q.2.2 (D.1 k) (D.2 k) := by
    refine ⟨(fun k => [c0, c1, c2, c3, c4].getD k c0, fun k => [i0, i1, i2, i3, i4].getD k i0), ?_⟩
    intro k q hq
    match k, hq with
    | 0, hq => cases hq; exact k0
    | 1, hq => cases hq; exact k1
    | 2, hq => cases hq; exact k2
    | 3, hq => cases hq; exact k3
    | 4, hq => cases hq; exact k4
    | k + 5, hq => simp [vwCl] at hq
  obtain ⟨aI, kI, mI, I1, I2, I3⟩ := arr_p (hj _ ac_I)
  obtain ⟨aB, kB, mB, B1, B2, B3⟩ := arr_p (hj _ ac_B)
  obtain ⟨aL, kL, mL, L1, L2, L3⟩ := arr_p (hj _ ac_L)
  obtain ⟨aZ, kZ, mZ', Z1, Z2, Z3⟩ := arr_p (hj _ ac_Z)
  have hAO : ∀ c ∈ jover, va_AO c s := fun c hc => va_AO.of (hts _ (over_in c hc))
  obtain ⟨aC, C1, C2⟩ := arr_o (hAO RC (by decide +kernel))
  obtain ⟨aV, V1, V2⟩ := arr_o (hAO RV (by decide +kernel))
  obtain ⟨aS, S1, S2⟩ := arr_o (hAO RS (by decide +kernel))
  have hfl := flat_of_before _ hgv
  have n1 : (Cond.arrayOf (.static "TruthScan" "NO_TEXT" "[B") .byte).before #[Value.ref b] s = true := hfl _ (by decide +kernel)
  have n2 : (Cond.eq (.length (.static "TruthScan" "NO_TEXT" "[B")) (.int 0)).before #[Value.ref b] s = true := hfl _ (by decide +kernel)
  obtain ⟨z, hz1, hz2⟩ := va_Tof (N := 0) (f := fun _ => .null) (A := fun q : Nat => s.heap.size ≤ q) (by omega) n1 (len_0 n2) (fun j hj => absurd hj (Nat.not_lt_zero _)) hA0
  have hz3 := va_Zref (A := fun q : Nat => s.heap.size ≤ q) (hts _ stat_in) (hj _ iz_T) hz1 hA0
  have hN : jN s := ⟨fun w hw => va_Nw.of (jnest_tab w hw) (hts w (nest_in w hw)), hAO⟩
  obtain ⟨G, hG1, hG2, hG3⟩ : ∃ G : jG, va_K G.1 vwCl (jtys G) s ∧ G.2.1 0 ≠ G.2.1 1 ∧ G.2.2 = z := by
    refine ⟨(D, fun k => [aI, aB, aL, aZ, aC, aV, aS].getD k aI, z), ⟨hKc, ?_⟩, ?_, rfl⟩
    · intro k q hq
      match k, hq with
      | 0, hq => cases hq; exact ⟨arr_t I2 I3, I1⟩
      | 1, hq => cases hq; exact ⟨arr_t B2 B3, B1⟩
      | 2, hq => cases hq; exact ⟨arr_t L2 L3, L1⟩
      | 3, hq => cases hq; exact ⟨arr_t Z2 Z3, Z1⟩
      | 4, hq => cases hq; exact ⟨C1, C2⟩
      | 5, hq => cases hq; exact ⟨V1, V2⟩
      | 6, hq => cases hq; exact ⟨S1, S2⟩
      | k + 7, hq => simp [jtys, jtyl] at hq
    · intro (h : aI = aB)
      subst h
      rw [I2] at B2
      cases B2
      rw [I3] at B3
      cases B3
  subst hG3
  have C : jC (p, l, e, room_1, s, m, #[Value.ref b], below, meth, c, G, fun q : Nat => s.heap.size ≤ q) RL b_L_law (4, 99) meth.sig.returnType 7 600000 7302250 := ⟨hx, hb, hml, hown, hj, hG1, fun _ h => h, hlocks, ⟨hz3, hz2⟩, hN, rfl, Nat.le_of_ble_eq_true rfl, Nat.le_of_ble_eq_true rfl, Nat.le_refl _, Nat.le_refl _⟩
  have hXs : jSc (p, l, e, room_1, s, m, #[Value.ref b], below, meth, c, G, fun q : Nat => s.heap.size ≤ q) b L xs := ⟨hX, hbl, Nat.not_le.mpr hbl⟩
  have run := law_run (Q := lw_Z below #[Value.ref b] s) C hXs hL hG2 (fun w k n lv hk hn H locs ls _ _ hS _ => va_forget (fun q hq => hS.2.2 q hq) (W.widen hk hn (lw_ret hx hb hr hlocks d_L_law_702)))
  rw [lg_entry_eq]
  exact run s.heap [] _ (fun k q h => by simp [va_pl] at h) ⟨fun i j p q h => by simp [va_pl] at h, fun k q h => by simp [va_pl] at h⟩ va_S.rf ⟨lv_entry [.ref b] (Nat.le_of_ble_eq_true rfl), jcb_ok rfl⟩
