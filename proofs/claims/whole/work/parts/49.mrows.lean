/-! Loads, stores and puts over the memory. -/
theorem nI_mul (a b : Nat) : nI a * nI b = nI (a * b) := (Int32.ofNat_mul a b).symm
section MJ
variable {X : jX} {own : String} {cc : ByteArray} {v : Nat × Nat} {ret : Option FieldType} {d0 mc ms : Nat} {Q : State → Prop} {w : jw} {k n pc t : Nat} {lv : List (Nat × Value)} {st : List Value} {o : Nat} {q : Nat → Nat} {m : jM}
theorem j_pt_cd {idx : Nat} {x : Int32} (C : jC X own cc v ret d0 mc ms) (f : jFp own idx 4 0 false .int) (d : decode cc pc = .ok (.putfield idx, 3)) (hM : MH (xG X) w o q m) (ht : pc + 3 = t) (K : ∀ w' : jw, MH (xG X) w' o q (mp_cd m x) → J X v Q w' k n t lv st) : J X v Q w k n pc lv (.int x :: .ref o :: st) :=
  j_putW C f d hM.1 rfl rfl (Nat.le_of_ble_eq_true rfl) ht (fun w' _ h f => K w' (MHp_cd hM h f))
theorem j_ld_tape {i : Nat} {y : Int32} {x : Int32} (C : jC X own cc v ret d0 mc ms) (d : decode cc pc = .ok (.iaload, 1)) (hM : MH (xG X) w o q m) (hx : y = nI i) (hi : i < 1000) (hv : mg_tape m i = x) (ht : pc + 1 = t) (K : J X v Q w k n t lv (.int x :: st)) : J X v Q w k n pc lv (.int y :: .ref (q 0) :: st) := by
  subst hx; subst hv
  refine j_iaload C d hM.2.1 (vp_in_nI hi (by omega)) ht ?_
  rw [nI_clamp (by omega)]
  exact K
theorem j_st_tape {i : Nat} {y : Int32} {x : Int32} (C : jC X own cc v ret d0 mc ms) (d : decode cc pc = .ok (.iastore, 1)) (hM : MH (xG X) w o q m) (hx : y = nI i) (hi : i < 1000) (ht : pc + 1 = t) (K : ∀ w' : jw, MH (xG X) w' o q (mp_tape m (upd (mg_tape m) i x)) → J X v Q w' k n t lv st) : J X v Q w k n pc lv (.int x :: .int y :: .ref (q 0) :: st) := by
  subst hx
  refine j_iastoreW C d hM.2.1 (vp_in_nI hi (by omega)) ht (fun w' _ h f => ?_)
  rw [nI_clamp (by omega)] at h
  exact K w' (MHp_tape hM h f)
theorem j_pt_tn {idx : Nat} {x : Int32} (C : jC X own cc v ret d0 mc ms) (f : jFp own idx 4 2 false .int) (d : decode cc pc = .ok (.putfield idx, 3)) (hM : MH (xG X) w o q m) (ht : pc + 3 = t) (K : ∀ w' : jw, MH (xG X) w' o q (mp_tn m x) → J X v Q w' k n t lv st) : J X v Q w k n pc lv (.int x :: .ref o :: st) :=
  j_putW C f d hM.1 rfl rfl (Nat.le_of_ble_eq_true rfl) ht (fun w' _ h f => K w' (MHp_tn hM h f))
theorem j_ld_num {i : Nat} {y : Int32} {x : Int64} (C : jC X own cc v ret d0 mc ms) (d : decode cc pc = .ok (.laload, 1)) (hM : MH (xG X) w o q m) (hx : y = nI i) (hi : i < 17696) (hv : mg_num m i = x) (ht : pc + 1 = t) (K : J X v Q w k n t lv (.long x :: st)) : J X v Q w k n pc lv (.int y :: .ref (q 1) :: st) := by
  subst hx; subst hv
  refine j_laload C d hM.2.2.1 (vp_in_nI hi (by omega)) ht ?_
  rw [nI_clamp (by omega)]
  exact K
theorem j_st_num {i : Nat} {y : Int32} {x : Int64} (C : jC X own cc v ret d0 mc ms) (d : decode cc pc = .ok (.lastore, 1)) (hM : MH (xG X) w o q m) (hx : y = nI i) (hi : i < 17696) (ht : pc + 1 = t) (K : ∀ w' : jw, MH (xG X) w' o q (mp_num m (vp_updL (mg_num m) i x)) → J X v Q w' k n t lv st) : J X v Q w k n pc lv (.long x :: .int y :: .ref (q 1) :: st) := by
  subst hx
  refine j_lastoreW C d hM.2.2.1 (vp_in_nI hi (by omega)) ht (fun w' _ h f => ?_)
  rw [nI_clamp (by omega)] at h
  exact K w' (MHp_num hM h f)
theorem j_ld_from {i : Nat} {y : Int32} {x : Int32} (C : jC X own cc v ret d0 mc ms) (d : decode cc pc = .ok (.iaload, 1)) (hM : MH (xG X) w o q m) (hx : y = nI i) (hi : i < 17696) (hv : mg_from m i = x) (ht : pc + 1 = t) (K : J X v Q w k n t lv (.int x :: st)) : J X v Q w k n pc lv (.int y :: .ref (q 2) :: st) := by
  subst hx; subst hv
  refine j_iaload C d hM.2.2.2.1 (vp_in_nI hi (by omega)) ht ?_
  rw [nI_clamp (by omega)]
  exact K
theorem j_st_from {i : Nat} {y : Int32} {x : Int32} (C : jC X own cc v ret d0 mc ms) (d : decode cc pc = .ok (.iastore, 1)) (hM : MH (xG X) w o q m) (hx : y = nI i) (hi : i < 17696) (ht : pc + 1 = t) (K : ∀ w' : jw, MH (xG X) w' o q (mp_from m (upd (mg_from m) i x)) → J X v Q w' k n t lv st) : J X v Q w k n pc lv (.int x :: .int y :: .ref (q 2) :: st) := by
  subst hx
  refine j_iastoreW C d hM.2.2.2.1 (vp_in_nI hi (by omega)) ht (fun w' _ h f => ?_)
  rw [nI_clamp (by omega)] at h
  exact K w' (MHp_from hM h f)
theorem j_ld_size {i : Nat} {y : Int32} {x : Int32} (C : jC X own cc v ret d0 mc ms) (d : decode cc pc = .ok (.iaload, 1)) (hM : MH (xG X) w o q m) (hx : y = nI i) (hi : i < 17696) (hv : mg_size m i = x) (ht : pc + 1 = t) (K : J X v Q w k n t lv (.int x :: st)) : J X v Q w k n pc lv (.int y :: .ref (q 3) :: st) := by
  subst hx; subst hv
  refine j_iaload C d hM.2.2.2.2.1 (vp_in_nI hi (by omega)) ht ?_
  rw [nI_clamp (by omega)]
  exact K
theorem j_st_size {i : Nat} {y : Int32} {x : Int32} (C : jC X own cc v ret d0 mc ms) (d : decode cc pc = .ok (.iastore, 1)) (hM : MH (xG X) w o q m) (hx : y = nI i) (hi : i < 17696) (ht : pc + 1 = t) (K : ∀ w' : jw, MH (xG X) w' o q (mp_size m (upd (mg_size m) i x)) → J X v Q w' k n t lv st) : J X v Q w k n pc lv (.int x :: .int y :: .ref (q 3) :: st) := by
  subst hx
  refine j_iastoreW C d hM.2.2.2.2.1 (vp_in_nI hi (by omega)) ht (fun w' _ h f => ?_)
  rw [nI_clamp (by omega)] at h
  exact K w' (MHp_size hM h f)
theorem j_ld_bytes {i : Nat} {y : Int32} {x : Int32} (C : jC X own cc v ret d0 mc ms) (d : decode cc pc = .ok (.iaload, 1)) (hM : MH (xG X) w o q m) (hx : y = nI i) (hi : i < 280576) (hv : mg_bytes m i = x) (ht : pc + 1 = t) (K : J X v Q w k n t lv (.int x :: st)) : J X v Q w k n pc lv (.int y :: .ref (q 4) :: st) := by
  subst hx; subst hv
  refine j_iaload C d hM.2.2.2.2.2.1 (vp_in_nI hi (by omega)) ht ?_
  rw [nI_clamp (by omega)]
  exact K
theorem j_st_bytes {i : Nat} {y : Int32} {x : Int32} (C : jC X own cc v ret d0 mc ms) (d : decode cc pc = .ok (.iastore, 1)) (hM : MH (xG X) w o q m) (hx : y = nI i) (hi : i < 280576) (ht : pc + 1 = t) (K : ∀ w' : jw, MH (xG X) w' o q (mp_bytes m (upd (mg_bytes m) i x)) → J X v Q w' k n t lv st) : J X v Q w k n pc lv (.int x :: .int y :: .ref (q 4) :: st) := by
  subst hx
  refine j_iastoreW C d hM.2.2.2.2.2.1 (vp_in_nI hi (by omega)) ht (fun w' _ h f => ?_)
  rw [nI_clamp (by omega)] at h
  exact K w' (MHp_bytes hM h f)
theorem j_ld_ty {i : Nat} {y : Int32} {x : Int32} (C : jC X own cc v ret d0 mc ms) (d : decode cc pc = .ok (.iaload, 1)) (hM : MH (xG X) w o q m) (hx : y = nI i) (hi : i < 16) (hv : mg_ty m i = x) (ht : pc + 1 = t) (K : J X v Q w k n t lv (.int x :: st)) : J X v Q w k n pc lv (.int y :: .ref (q 5) :: st) := by
  subst hx; subst hv
  refine j_iaload C d hM.2.2.2.2.2.2.1 (vp_in_nI hi (by omega)) ht ?_
  rw [nI_clamp (by omega)]
  exact K
theorem j_st_ty {i : Nat} {y : Int32} {x : Int32} (C : jC X own cc v ret d0 mc ms) (d : decode cc pc = .ok (.iastore, 1)) (hM : MH (xG X) w o q m) (hx : y = nI i) (hi : i < 16) (ht : pc + 1 = t) (K : ∀ w' : jw, MH (xG X) w' o q (mp_ty m (upd (mg_ty m) i x)) → J X v Q w' k n t lv st) : J X v Q w k n pc lv (.int x :: .int y :: .ref (q 5) :: st) := by
  subst hx
  refine j_iastoreW C d hM.2.2.2.2.2.2.1 (vp_in_nI hi (by omega)) ht (fun w' _ h f => ?_)
  rw [nI_clamp (by omega)] at h
  exact K w' (MHp_ty hM h f)
theorem j_ld_cnt {i : Nat} {y : Int32} {x : Int32} (C : jC X own cc v ret d0 mc ms) (d : decode cc pc = .ok (.iaload, 1)) (hM : MH (xG X) w o q m) (hx : y = nI i) (hi : i < 16) (hv : mg_cnt m i = x) (ht : pc + 1 = t) (K : J X v Q w k n t lv (.int x :: st)) : J X v Q w k n pc lv (.int y :: .ref (q 6) :: st) := by
  subst hx; subst hv
  refine j_iaload C d hM.2.2.2.2.2.2.2.1 (vp_in_nI hi (by omega)) ht ?_
  rw [nI_clamp (by omega)]
  exact K
theorem j_st_cnt {i : Nat} {y : Int32} {x : Int32} (C : jC X own cc v ret d0 mc ms) (d : decode cc pc = .ok (.iastore, 1)) (hM : MH (xG X) w o q m) (hx : y = nI i) (hi : i < 16) (ht : pc + 1 = t) (K : ∀ w' : jw, MH (xG X) w' o q (mp_cnt m (upd (mg_cnt m) i x)) → J X v Q w' k n t lv st) : J X v Q w k n pc lv (.int x :: .int y :: .ref (q 6) :: st) := by
  subst hx
  refine j_iastoreW C d hM.2.2.2.2.2.2.2.1 (vp_in_nI hi (by omega)) ht (fun w' _ h f => ?_)
  rw [nI_clamp (by omega)] at h
  exact K w' (MHp_cnt hM h f)
theorem j_ld_us {i : Nat} {y : Int32} {x : Int32} (C : jC X own cc v ret d0 mc ms) (d : decode cc pc = .ok (.iaload, 1)) (hM : MH (xG X) w o q m) (hx : y = nI i) (hi : i < 16) (hv : mg_us m i = x) (ht : pc + 1 = t) (K : J X v Q w k n t lv (.int x :: st)) : J X v Q w k n pc lv (.int y :: .ref (q 7) :: st) := by
  subst hx; subst hv
  refine j_iaload C d hM.2.2.2.2.2.2.2.2.1 (vp_in_nI hi (by omega)) ht ?_
  rw [nI_clamp (by omega)]
  exact K
theorem j_st_us {i : Nat} {y : Int32} {x : Int32} (C : jC X own cc v ret d0 mc ms) (d : decode cc pc = .ok (.iastore, 1)) (hM : MH (xG X) w o q m) (hx : y = nI i) (hi : i < 16) (ht : pc + 1 = t) (K : ∀ w' : jw, MH (xG X) w' o q (mp_us m (upd (mg_us m) i x)) → J X v Q w' k n t lv st) : J X v Q w k n pc lv (.int x :: .int y :: .ref (q 7) :: st) := by
  subst hx
  refine j_iastoreW C d hM.2.2.2.2.2.2.2.2.1 (vp_in_nI hi (by omega)) ht (fun w' _ h f => ?_)
  rw [nI_clamp (by omega)] at h
  exact K w' (MHp_us hM h f)
theorem j_ld_rw {i : Nat} {y : Int32} {x : Int32} (C : jC X own cc v ret d0 mc ms) (d : decode cc pc = .ok (.iaload, 1)) (hM : MH (xG X) w o q m) (hx : y = nI i) (hi : i < 16) (hv : mg_rw m i = x) (ht : pc + 1 = t) (K : J X v Q w k n t lv (.int x :: st)) : J X v Q w k n pc lv (.int y :: .ref (q 8) :: st) := by
  subst hx; subst hv
  refine j_iaload C d hM.2.2.2.2.2.2.2.2.2.1 (vp_in_nI hi (by omega)) ht ?_
  rw [nI_clamp (by omega)]
  exact K
theorem j_st_rw {i : Nat} {y : Int32} {x : Int32} (C : jC X own cc v ret d0 mc ms) (d : decode cc pc = .ok (.iastore, 1)) (hM : MH (xG X) w o q m) (hx : y = nI i) (hi : i < 16) (ht : pc + 1 = t) (K : ∀ w' : jw, MH (xG X) w' o q (mp_rw m (upd (mg_rw m) i x)) → J X v Q w' k n t lv st) : J X v Q w k n pc lv (.int x :: .int y :: .ref (q 8) :: st) := by
  subst hx
  refine j_iastoreW C d hM.2.2.2.2.2.2.2.2.2.1 (vp_in_nI hi (by omega)) ht (fun w' _ h f => ?_)
  rw [nI_clamp (by omega)] at h
  exact K w' (MHp_rw hM h f)
theorem j_ld_ms {i : Nat} {y : Int32} {x : Int32} (C : jC X own cc v ret d0 mc ms) (d : decode cc pc = .ok (.iaload, 1)) (hM : MH (xG X) w o q m) (hx : y = nI i) (hi : i < 16) (hv : mg_ms m i = x) (ht : pc + 1 = t) (K : J X v Q w k n t lv (.int x :: st)) : J X v Q w k n pc lv (.int y :: .ref (q 9) :: st) := by
  subst hx; subst hv
  refine j_iaload C d hM.2.2.2.2.2.2.2.2.2.2.1 (vp_in_nI hi (by omega)) ht ?_
  rw [nI_clamp (by omega)]
  exact K
theorem j_st_ms {i : Nat} {y : Int32} {x : Int32} (C : jC X own cc v ret d0 mc ms) (d : decode cc pc = .ok (.iastore, 1)) (hM : MH (xG X) w o q m) (hx : y = nI i) (hi : i < 16) (ht : pc + 1 = t) (K : ∀ w' : jw, MH (xG X) w' o q (mp_ms m (upd (mg_ms m) i x)) → J X v Q w' k n t lv st) : J X v Q w k n pc lv (.int x :: .int y :: .ref (q 9) :: st) := by
  subst hx
  refine j_iastoreW C d hM.2.2.2.2.2.2.2.2.2.2.1 (vp_in_nI hi (by omega)) ht (fun w' _ h f => ?_)
  rw [nI_clamp (by omega)] at h
  exact K w' (MHp_ms hM h f)
theorem j_ld_wd {i : Nat} {y : Int32} {x : Int32} (C : jC X own cc v ret d0 mc ms) (d : decode cc pc = .ok (.iaload, 1)) (hM : MH (xG X) w o q m) (hx : y = nI i) (hi : i < 16) (hv : mg_wd m i = x) (ht : pc + 1 = t) (K : J X v Q w k n t lv (.int x :: st)) : J X v Q w k n pc lv (.int y :: .ref (q 10) :: st) := by
  subst hx; subst hv
  refine j_iaload C d hM.2.2.2.2.2.2.2.2.2.2.2.1 (vp_in_nI hi (by omega)) ht ?_
  rw [nI_clamp (by omega)]
  exact K
theorem j_st_wd {i : Nat} {y : Int32} {x : Int32} (C : jC X own cc v ret d0 mc ms) (d : decode cc pc = .ok (.iastore, 1)) (hM : MH (xG X) w o q m) (hx : y = nI i) (hi : i < 16) (ht : pc + 1 = t) (K : ∀ w' : jw, MH (xG X) w' o q (mp_wd m (upd (mg_wd m) i x)) → J X v Q w' k n t lv st) : J X v Q w k n pc lv (.int x :: .int y :: .ref (q 10) :: st) := by
  subst hx
  refine j_iastoreW C d hM.2.2.2.2.2.2.2.2.2.2.2.1 (vp_in_nI hi (by omega)) ht (fun w' _ h f => ?_)
  rw [nI_clamp (by omega)] at h
  exact K w' (MHp_wd hM h f)
theorem j_ld_kn {i : Nat} {y : Int32} {x : Int32} (C : jC X own cc v ret d0 mc ms) (d : decode cc pc = .ok (.baload, 1)) (hM : MH (xG X) w o q m) (hx : y = nI i) (hi : i < 16) (hv : mg_kn m i = x) (ht : pc + 1 = t) (K : J X v Q w k n t lv (.int x :: st)) : J X v Q w k n pc lv (.int y :: .ref (q 11) :: st) := by
  subst hx; subst hv
  refine j_zaload C d hM.2.2.2.2.2.2.2.2.2.2.2.2.1 (vp_in_nI hi (by omega)) ht ?_
  rw [nI_clamp (by omega)]
  exact K
theorem j_st_kn {i : Nat} {y : Int32} {x : Int32} (C : jC X own cc v ret d0 mc ms) (d : decode cc pc = .ok (.bastore, 1)) (hM : MH (xG X) w o q m) (hx : y = nI i) (hi : i < 16) (hz : vp_nar .boolean x = x) (ht : pc + 1 = t) (K : ∀ w' : jw, MH (xG X) w' o q (mp_kn m (upd (mg_kn m) i x)) → J X v Q w' k n t lv st) : J X v Q w k n pc lv (.int x :: .int y :: .ref (q 11) :: st) := by
  subst hx
  refine j_zastoreW C d hM.2.2.2.2.2.2.2.2.2.2.2.2.1 (vp_in_nI hi (by omega)) ht (fun w' _ h f => ?_)
  rw [nI_clamp (by omega), hz] at h
  exact K w' (MHp_kn hM h f)
theorem j_ld_hm {i : Nat} {y : Int32} {x : Int32} (C : jC X own cc v ret d0 mc ms) (d : decode cc pc = .ok (.baload, 1)) (hM : MH (xG X) w o q m) (hx : y = nI i) (hi : i < 16) (hv : mg_hm m i = x) (ht : pc + 1 = t) (K : J X v Q w k n t lv (.int x :: st)) : J X v Q w k n pc lv (.int y :: .ref (q 12) :: st) := by
  subst hx; subst hv
  refine j_zaload C d hM.2.2.2.2.2.2.2.2.2.2.2.2.2.1 (vp_in_nI hi (by omega)) ht ?_
  rw [nI_clamp (by omega)]
  exact K
theorem j_st_hm {i : Nat} {y : Int32} {x : Int32} (C : jC X own cc v ret d0 mc ms) (d : decode cc pc = .ok (.bastore, 1)) (hM : MH (xG X) w o q m) (hx : y = nI i) (hi : i < 16) (hz : vp_nar .boolean x = x) (ht : pc + 1 = t) (K : ∀ w' : jw, MH (xG X) w' o q (mp_hm m (upd (mg_hm m) i x)) → J X v Q w' k n t lv st) : J X v Q w k n pc lv (.int x :: .int y :: .ref (q 12) :: st) := by
  subst hx
  refine j_zastoreW C d hM.2.2.2.2.2.2.2.2.2.2.2.2.2.1 (vp_in_nI hi (by omega)) ht (fun w' _ h f => ?_)
  rw [nI_clamp (by omega), hz] at h
  exact K w' (MHp_hm hM h f)
theorem j_ld_has {i : Nat} {y : Int32} {x : Int32} (C : jC X own cc v ret d0 mc ms) (d : decode cc pc = .ok (.baload, 1)) (hM : MH (xG X) w o q m) (hx : y = nI i) (hi : i < 16000) (hv : mg_has m i = x) (ht : pc + 1 = t) (K : J X v Q w k n t lv (.int x :: st)) : J X v Q w k n pc lv (.int y :: .ref (q 13) :: st) := by
  subst hx; subst hv
  refine j_zaload C d hM.2.2.2.2.2.2.2.2.2.2.2.2.2.2.1 (vp_in_nI hi (by omega)) ht ?_
  rw [nI_clamp (by omega)]
  exact K
theorem j_st_has {i : Nat} {y : Int32} {x : Int32} (C : jC X own cc v ret d0 mc ms) (d : decode cc pc = .ok (.bastore, 1)) (hM : MH (xG X) w o q m) (hx : y = nI i) (hi : i < 16000) (hz : vp_nar .boolean x = x) (ht : pc + 1 = t) (K : ∀ w' : jw, MH (xG X) w' o q (mp_has m (upd (mg_has m) i x)) → J X v Q w' k n t lv st) : J X v Q w k n pc lv (.int x :: .int y :: .ref (q 13) :: st) := by
  subst hx
  refine j_zastoreW C d hM.2.2.2.2.2.2.2.2.2.2.2.2.2.2.1 (vp_in_nI hi (by omega)) ht (fun w' _ h f => ?_)
  rw [nI_clamp (by omega), hz] at h
  exact K w' (MHp_has hM h f)
theorem j_pt_cc {idx : Nat} {x : Int32} (C : jC X own cc v ret d0 mc ms) (f : jFp own idx 4 16 false .int) (d : decode cc pc = .ok (.putfield idx, 3)) (hM : MH (xG X) w o q m) (ht : pc + 3 = t) (K : ∀ w' : jw, MH (xG X) w' o q (mp_cc m x) → J X v Q w' k n t lv st) : J X v Q w k n pc lv (.int x :: .ref o :: st) :=
  j_putW C f d hM.1 rfl rfl (Nat.le_of_ble_eq_true rfl) ht (fun w' _ h f => K w' (MHp_cc hM h f))
theorem j_pt_ln {idx : Nat} {x : Int32} (C : jC X own cc v ret d0 mc ms) (f : jFp own idx 4 17 false .int) (d : decode cc pc = .ok (.putfield idx, 3)) (hM : MH (xG X) w o q m) (ht : pc + 3 = t) (K : ∀ w' : jw, MH (xG X) w' o q (mp_ln m x) → J X v Q w' k n t lv st) : J X v Q w k n pc lv (.int x :: .ref o :: st) :=
  j_putW C f d hM.1 rfl rfl (Nat.le_of_ble_eq_true rfl) ht (fun w' _ h f => K w' (MHp_ln hM h f))
theorem j_pt_sn {idx : Nat} {x : Int32} (C : jC X own cc v ret d0 mc ms) (f : jFp own idx 4 18 false .int) (d : decode cc pc = .ok (.putfield idx, 3)) (hM : MH (xG X) w o q m) (ht : pc + 3 = t) (K : ∀ w' : jw, MH (xG X) w' o q (mp_sn m x) → J X v Q w' k n t lv st) : J X v Q w k n pc lv (.int x :: .ref o :: st) :=
  j_putW C f d hM.1 rfl rfl (Nat.le_of_ble_eq_true rfl) ht (fun w' _ h f => K w' (MHp_sn hM h f))
theorem j_ld_lt {i : Nat} {y : Int32} {x : Int32} (C : jC X own cc v ret d0 mc ms) (d : decode cc pc = .ok (.iaload, 1)) (hM : MH (xG X) w o q m) (hx : y = nI i) (hi : i < 64) (hv : mg_lt m i = x) (ht : pc + 1 = t) (K : J X v Q w k n t lv (.int x :: st)) : J X v Q w k n pc lv (.int y :: .ref (q 14) :: st) := by
  subst hx; subst hv
  refine j_iaload C d hM.2.2.2.2.2.2.2.2.2.2.2.2.2.2.2.1 (vp_in_nI hi (by omega)) ht ?_
  rw [nI_clamp (by omega)]
  exact K
theorem j_st_lt {i : Nat} {y : Int32} {x : Int32} (C : jC X own cc v ret d0 mc ms) (d : decode cc pc = .ok (.iastore, 1)) (hM : MH (xG X) w o q m) (hx : y = nI i) (hi : i < 64) (ht : pc + 1 = t) (K : ∀ w' : jw, MH (xG X) w' o q (mp_lt m (upd (mg_lt m) i x)) → J X v Q w' k n t lv st) : J X v Q w k n pc lv (.int x :: .int y :: .ref (q 14) :: st) := by
  subst hx
  refine j_iastoreW C d hM.2.2.2.2.2.2.2.2.2.2.2.2.2.2.2.1 (vp_in_nI hi (by omega)) ht (fun w' _ h f => ?_)
  rw [nI_clamp (by omega)] at h
  exact K w' (MHp_lt hM h f)
theorem j_ld_kd {i : Nat} {y : Int32} {x : Int32} (C : jC X own cc v ret d0 mc ms) (d : decode cc pc = .ok (.iaload, 1)) (hM : MH (xG X) w o q m) (hx : y = nI i) (hi : i < 64) (hv : mg_kd m i = x) (ht : pc + 1 = t) (K : J X v Q w k n t lv (.int x :: st)) : J X v Q w k n pc lv (.int y :: .ref (q 15) :: st) := by
  subst hx; subst hv
  refine j_iaload C d hM.2.2.2.2.2.2.2.2.2.2.2.2.2.2.2.2.1 (vp_in_nI hi (by omega)) ht ?_
  rw [nI_clamp (by omega)]
  exact K
theorem j_st_kd {i : Nat} {y : Int32} {x : Int32} (C : jC X own cc v ret d0 mc ms) (d : decode cc pc = .ok (.iastore, 1)) (hM : MH (xG X) w o q m) (hx : y = nI i) (hi : i < 64) (ht : pc + 1 = t) (K : ∀ w' : jw, MH (xG X) w' o q (mp_kd m (upd (mg_kd m) i x)) → J X v Q w' k n t lv st) : J X v Q w k n pc lv (.int x :: .int y :: .ref (q 15) :: st) := by
  subst hx
  refine j_iastoreW C d hM.2.2.2.2.2.2.2.2.2.2.2.2.2.2.2.2.1 (vp_in_nI hi (by omega)) ht (fun w' _ h f => ?_)
  rw [nI_clamp (by omega)] at h
  exact K w' (MHp_kd hM h f)
theorem j_ld_fi {i : Nat} {y : Int32} {x : Int32} (C : jC X own cc v ret d0 mc ms) (d : decode cc pc = .ok (.iaload, 1)) (hM : MH (xG X) w o q m) (hx : y = nI i) (hi : i < 64) (hv : mg_fi m i = x) (ht : pc + 1 = t) (K : J X v Q w k n t lv (.int x :: st)) : J X v Q w k n pc lv (.int y :: .ref (q 16) :: st) := by
  subst hx; subst hv
  refine j_iaload C d hM.2.2.2.2.2.2.2.2.2.2.2.2.2.2.2.2.2.1 (vp_in_nI hi (by omega)) ht ?_
  rw [nI_clamp (by omega)]
  exact K
theorem j_st_fi {i : Nat} {y : Int32} {x : Int32} (C : jC X own cc v ret d0 mc ms) (d : decode cc pc = .ok (.iastore, 1)) (hM : MH (xG X) w o q m) (hx : y = nI i) (hi : i < 64) (ht : pc + 1 = t) (K : ∀ w' : jw, MH (xG X) w' o q (mp_fi m (upd (mg_fi m) i x)) → J X v Q w' k n t lv st) : J X v Q w k n pc lv (.int x :: .int y :: .ref (q 16) :: st) := by
  subst hx
  refine j_iastoreW C d hM.2.2.2.2.2.2.2.2.2.2.2.2.2.2.2.2.2.1 (vp_in_nI hi (by omega)) ht (fun w' _ h f => ?_)
  rw [nI_clamp (by omega)] at h
  exact K w' (MHp_fi hM h f)
theorem j_ld_op {i : Nat} {y : Int32} {x : Int32} (C : jC X own cc v ret d0 mc ms) (d : decode cc pc = .ok (.iaload, 1)) (hM : MH (xG X) w o q m) (hx : y = nI i) (hi : i < 64) (hv : mg_op m i = x) (ht : pc + 1 = t) (K : J X v Q w k n t lv (.int x :: st)) : J X v Q w k n pc lv (.int y :: .ref (q 17) :: st) := by
  subst hx; subst hv
  refine j_iaload C d hM.2.2.2.2.2.2.2.2.2.2.2.2.2.2.2.2.2.2.1 (vp_in_nI hi (by omega)) ht ?_
  rw [nI_clamp (by omega)]
  exact K
theorem j_st_op {i : Nat} {y : Int32} {x : Int32} (C : jC X own cc v ret d0 mc ms) (d : decode cc pc = .ok (.iastore, 1)) (hM : MH (xG X) w o q m) (hx : y = nI i) (hi : i < 64) (ht : pc + 1 = t) (K : ∀ w' : jw, MH (xG X) w' o q (mp_op m (upd (mg_op m) i x)) → J X v Q w' k n t lv st) : J X v Q w k n pc lv (.int x :: .int y :: .ref (q 17) :: st) := by
  subst hx
  refine j_iastoreW C d hM.2.2.2.2.2.2.2.2.2.2.2.2.2.2.2.2.2.2.1 (vp_in_nI hi (by omega)) ht (fun w' _ h f => ?_)
  rw [nI_clamp (by omega)] at h
  exact K w' (MHp_op hM h f)
theorem j_ld_ot {i : Nat} {y : Int32} {x : Int32} (C : jC X own cc v ret d0 mc ms) (d : decode cc pc = .ok (.iaload, 1)) (hM : MH (xG X) w o q m) (hx : y = nI i) (hi : i < 64) (hv : mg_ot m i = x) (ht : pc + 1 = t) (K : J X v Q w k n t lv (.int x :: st)) : J X v Q w k n pc lv (.int y :: .ref (q 18) :: st) := by
  subst hx; subst hv
  refine j_iaload C d hM.2.2.2.2.2.2.2.2.2.2.2.2.2.2.2.2.2.2.2.1 (vp_in_nI hi (by omega)) ht ?_
  rw [nI_clamp (by omega)]
  exact K
theorem j_st_ot {i : Nat} {y : Int32} {x : Int32} (C : jC X own cc v ret d0 mc ms) (d : decode cc pc = .ok (.iastore, 1)) (hM : MH (xG X) w o q m) (hx : y = nI i) (hi : i < 64) (ht : pc + 1 = t) (K : ∀ w' : jw, MH (xG X) w' o q (mp_ot m (upd (mg_ot m) i x)) → J X v Q w' k n t lv st) : J X v Q w k n pc lv (.int x :: .int y :: .ref (q 18) :: st) := by
  subst hx
  refine j_iastoreW C d hM.2.2.2.2.2.2.2.2.2.2.2.2.2.2.2.2.2.2.2.1 (vp_in_nI hi (by omega)) ht (fun w' _ h f => ?_)
  rw [nI_clamp (by omega)] at h
  exact K w' (MHp_ot hM h f)
theorem j_ld_mn {i : Nat} {y : Int32} {x : Int32} (C : jC X own cc v ret d0 mc ms) (d : decode cc pc = .ok (.iaload, 1)) (hM : MH (xG X) w o q m) (hx : y = nI i) (hi : i < 64) (hv : mg_mn m i = x) (ht : pc + 1 = t) (K : J X v Q w k n t lv (.int x :: st)) : J X v Q w k n pc lv (.int y :: .ref (q 19) :: st) := by
  subst hx; subst hv
  refine j_iaload C d hM.2.2.2.2.2.2.2.2.2.2.2.2.2.2.2.2.2.2.2.2.1 (vp_in_nI hi (by omega)) ht ?_
  rw [nI_clamp (by omega)]
  exact K
theorem j_st_mn {i : Nat} {y : Int32} {x : Int32} (C : jC X own cc v ret d0 mc ms) (d : decode cc pc = .ok (.iastore, 1)) (hM : MH (xG X) w o q m) (hx : y = nI i) (hi : i < 64) (ht : pc + 1 = t) (K : ∀ w' : jw, MH (xG X) w' o q (mp_mn m (upd (mg_mn m) i x)) → J X v Q w' k n t lv st) : J X v Q w k n pc lv (.int x :: .int y :: .ref (q 19) :: st) := by
  subst hx
  refine j_iastoreW C d hM.2.2.2.2.2.2.2.2.2.2.2.2.2.2.2.2.2.2.2.2.1 (vp_in_nI hi (by omega)) ht (fun w' _ h f => ?_)
  rw [nI_clamp (by omega)] at h
  exact K w' (MHp_mn hM h f)
theorem j_ld_tr {i : Nat} {y : Int32} {x : Int32} (C : jC X own cc v ret d0 mc ms) (d : decode cc pc = .ok (.iaload, 1)) (hM : MH (xG X) w o q m) (hx : y = nI i) (hi : i < 1000) (hv : mg_tr m i = x) (ht : pc + 1 = t) (K : J X v Q w k n t lv (.int x :: st)) : J X v Q w k n pc lv (.int y :: .ref (q 20) :: st) := by
  subst hx; subst hv
  refine j_iaload C d hM.2.2.2.2.2.2.2.2.2.2.2.2.2.2.2.2.2.2.2.2.2.1 (vp_in_nI hi (by omega)) ht ?_
  rw [nI_clamp (by omega)]
  exact K
theorem j_st_tr {i : Nat} {y : Int32} {x : Int32} (C : jC X own cc v ret d0 mc ms) (d : decode cc pc = .ok (.iastore, 1)) (hM : MH (xG X) w o q m) (hx : y = nI i) (hi : i < 1000) (ht : pc + 1 = t) (K : ∀ w' : jw, MH (xG X) w' o q (mp_tr m (upd (mg_tr m) i x)) → J X v Q w' k n t lv st) : J X v Q w k n pc lv (.int x :: .int y :: .ref (q 20) :: st) := by
  subst hx
  refine j_iastoreW C d hM.2.2.2.2.2.2.2.2.2.2.2.2.2.2.2.2.2.2.2.2.2.1 (vp_in_nI hi (by omega)) ht (fun w' _ h f => ?_)
  rw [nI_clamp (by omega)] at h
  exact K w' (MHp_tr hM h f)
theorem j_ld_pl {i : Nat} {y : Int32} {x : Int32} (C : jC X own cc v ret d0 mc ms) (d : decode cc pc = .ok (.iaload, 1)) (hM : MH (xG X) w o q m) (hx : y = nI i) (hi : i < 64) (hv : mg_pl m i = x) (ht : pc + 1 = t) (K : J X v Q w k n t lv (.int x :: st)) : J X v Q w k n pc lv (.int y :: .ref (q 21) :: st) := by
  subst hx; subst hv
  refine j_iaload C d hM.2.2.2.2.2.2.2.2.2.2.2.2.2.2.2.2.2.2.2.2.2.2.1 (vp_in_nI hi (by omega)) ht ?_
  rw [nI_clamp (by omega)]
  exact K
theorem j_st_pl {i : Nat} {y : Int32} {x : Int32} (C : jC X own cc v ret d0 mc ms) (d : decode cc pc = .ok (.iastore, 1)) (hM : MH (xG X) w o q m) (hx : y = nI i) (hi : i < 64) (ht : pc + 1 = t) (K : ∀ w' : jw, MH (xG X) w' o q (mp_pl m (upd (mg_pl m) i x)) → J X v Q w' k n t lv st) : J X v Q w k n pc lv (.int x :: .int y :: .ref (q 21) :: st) := by
  subst hx
  refine j_iastoreW C d hM.2.2.2.2.2.2.2.2.2.2.2.2.2.2.2.2.2.2.2.2.2.2.1 (vp_in_nI hi (by omega)) ht (fun w' _ h f => ?_)
  rw [nI_clamp (by omega)] at h
  exact K w' (MHp_pl hM h f)
theorem j_pt_zn {idx : Nat} {x : Int32} (C : jC X own cc v ret d0 mc ms) (f : jFp own idx 4 27 false .int) (d : decode cc pc = .ok (.putfield idx, 3)) (hM : MH (xG X) w o q m) (ht : pc + 3 = t) (K : ∀ w' : jw, MH (xG X) w' o q (mp_zn m x) → J X v Q w' k n t lv st) : J X v Q w k n pc lv (.int x :: .ref o :: st) :=
  j_putW C f d hM.1 rfl rfl (Nat.le_of_ble_eq_true rfl) ht (fun w' _ h f => K w' (MHp_zn hM h f))
end MJ
