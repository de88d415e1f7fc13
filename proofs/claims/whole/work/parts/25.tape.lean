set_option maxHeartbeats 4000000 in
set_option maxRecDepth 100000 in
/-- Arrays.copyOf, of a shorter array -/
theorem c_A_copyOf (l : Launch) (a0 : Nat) (f : Nat → Int32) (n : Nat) : MC l y_A_copyOf b_A_copyOf 3 (some (.array .byte)) 2 1 255
    (fun G w av => av = [.ref a0, .int (nI n)] ∧ jh w a0 (eB G 1000 f) ∧ n ≤ 255 ∧ fitB8 f)
    (fun G w av r w' => ∃ t, r = some (.ref t) ∧ t ∉ w.1 ∧ (∃ g, jh w' t (eB G n g) ∧ ∀ j, j < n → g j = f j) ∧ KA w w' []) := by
  refine MC.of 99 (by decide) ?_
  intro X w av hl C hnm hp
  obtain ⟨rfl, ha, hn, hfit⟩ := hp
  refine ⟨[(0, _), (1, _)], rfl, Nat.le_of_ble_eq_true rfl, rfl, ?_⟩
  refine j_iload_n (i := 1) (t := 1) C d_A_copyOf_0 rfl rfl rfl ?_
  refine j_aload_n (i := 0) (t := 2) C d_A_copyOf_1 rfl rfl (by first | exact jrv_r | exact jrv_n | exact jrv_f) rfl ?_
  refine j_alen (tk := 1) (t := 3) C d_A_copyOf_2 ha rfl rfl ?_
  refine j_icmp_ne (tgt := 14) (t := 6) C d_A_copyOf_3 (by decide) rfl (fun h3 => ?_) (fun h3 => absurd h3 (fun z => absurd ((nI_eq (by omega) (by omega)).mp z) (by omega)))
  refine j_iload_n (i := 1) (t := 15) C d_A_copyOf_14 rfl rfl rfl ?_
  refine j_newBW (N := n) (t := 17) C d_A_copyOf_15 ac_B rfl (by omega) (by omega) (by omega) rfl (fun a15 w15 n15 e15 h15 f15 => ?_)
  have ha15 := f15 _ _ ha
  refine j_astore_n (i := 2) (t := 18) (lv' := [(0, _), (1, _), (2, _)]) C d_A_copyOf_17 rfl (by first | exact jrv_r | exact jrv_n | exact jrv_f) (by decide) (by decide) rfl rfl ?_
  refine j_aload_n (i := 0) (t := 19) C d_A_copyOf_18 rfl rfl (by first | exact jrv_r | exact jrv_n | exact jrv_f) rfl ?_
  refine j_iconst (x := 0) (t := 20) C d_A_copyOf_19 rfl rfl ?_
  refine j_aload_n (i := 2) (t := 21) C d_A_copyOf_20 rfl rfl (by first | exact jrv_r | exact jrv_n | exact jrv_f) rfl ?_
  refine j_iconst (x := 0) (t := 22) C d_A_copyOf_21 rfl rfl ?_
  refine j_aload_n (i := 0) (t := 23) C d_A_copyOf_22 rfl rfl (by first | exact jrv_r | exact jrv_n | exact jrv_f) rfl ?_
  refine j_alen (tk := 1) (t := 24) C d_A_copyOf_23 ha15 rfl rfl ?_
  refine j_iload_n (i := 1) (t := 25) C d_A_copyOf_24 rfl rfl rfl ?_
  refine j_min (t := 28) C d_A_copyOf_25 ml_A_min st_min iz_min cd_min (by decide) (Nat.le_of_ble_eq_true rfl) (by omega) (by omega) rfl ?_
  rw [if_pos (nI_lt (show n < 1000 by omega) (by omega))]
  refine j_copyB (i := n) (t := 31) C d_A_copyOf_28 ml_A_ac nt_ac st_ac iz_ac ha15 h15 (by omega) (by omega) (by omega) hfit (by decide) (Nat.le_of_ble_eq_true rfl) rfl (fun w28 e28 h28 f28 => ?_)
  refine j_aload_n (i := 2) (t := 32) C d_A_copyOf_31 rfl rfl (by first | exact jrv_r | exact jrv_n | exact jrv_f) rfl ?_
  exact j_aret C d_A_copyOf_32 (by first | exact Or.inl ⟨_, rfl⟩ | exact Or.inr ⟨_, rfl⟩) (by first | exact jrv_r | exact jrv_n | exact jrv_f) (⟨a15, rfl, n15, ⟨_, h28, fun j hj => sb_cpy0 hj⟩, fun b e _ hb => f28 b e (fun z => n15 (by rw [← z]; exact hb.1)) (f15 b e hb)⟩) (by omega) (by omega)
theorem upd_self {f : Nat → Int32} {k : Nat} {x : Int32} : upd f k x k = x := pk_us
theorem upd_ne {f : Nat → Int32} {k j : Nat} {x : Int32} (h : j ≠ k) : upd f k x j = f j := pk_un h
theorem fit_put {f : Nat → Int32} {k : Nat} {x : Int32} (h : fitB8 f) (hx : fits .byte (.int x) = true) : fitB8 (upd f k x) := fun j => by
  by_cases q : j = k
  · subst q; rw [upd_self]; exact hx
  · rw [upd_ne q]; exact h j
set_option maxHeartbeats 4000000 in
set_option maxRecDepth 100000 in
/-- putOnTape: four bytes -/
theorem c_T_putOnTape (l : Launch) (a : Nat) (ac : Nat) (cc1 : Int32) (at1 : Nat) (al : Nat) (lnI : Int32) (as1 : Nat) (snI : Int32) (aw ar : Nat) (znI : Int32) (au : Nat) (unI : Int32) (tn : Nat) (f : Nat → Int32) (x : Int32) : MC l y_T_putOnTape b_T_putOnTape 3 (none) 0 0 0
    (fun G w av => av = [.ref a, .int x] ∧ jh w a (eO cT (tFs ac cc1 at1 (nI tn) al lnI as1 snI aw ar znI au unI)) ∧ jh w at1 (eB G 1000 f) ∧ tn + 4 ≤ 1000 ∧ fitB8 f)
    (fun G w av r w' => r = none ∧ jh w' a (eO cT (tFs ac cc1 at1 (nI (tn + 4)) al lnI as1 snI aw ar znI au unI)) ∧ (∃ f', jh w' at1 (eB G 1000 f') ∧ fitB8 f' ∧ (∀ j, j < tn → f' j = f j) ∧ ∀ k, k < 4 → ub (f' (tn + k)) = byt x k) ∧ KA w w' [a, at1]) := by
  refine MC.of 99 (by decide) ?_
  intro X w av hl C hnm hp
  obtain ⟨rfl, ha, hat, htn, hfit⟩ := hp
  have hne : a ≠ at1 := jh_ne ha hat (by simp)
  refine ⟨[(0, _), (1, _)], rfl, Nat.le_of_ble_eq_true rfl, rfl, ?_⟩
  have loop : ∀ (q k : Nat) (wi : jw) (fi : Nat → Int32), 5 ≤ k + q → k ≤ 4 → jh wi a (eO cT (tFs ac cc1 at1 (nI (tn + k)) al lnI as1 snI aw ar znI au unI)) → jh wi at1 (eB (xG X) 1000 fi) → fitB8 fi → (∀ j, j < tn → fi j = f j) → (∀ j, j < k → ub (fi (tn + j)) = byt x j) → KA w wi [a, at1] → J X (3, 99) (jQ X (fun r w' => r = none ∧ jh w' a (eO cT (tFs ac cc1 at1 (nI (tn + 4)) al lnI as1 snI aw ar znI au unI)) ∧ (∃ f', jh w' at1 (eB (xG X) 1000 f') ∧ fitB8 f' ∧ (∀ j, j < tn → f' j = f j) ∧ ∀ k, k < 4 → ub (f' (tn + k)) = byt x k) ∧ KA w w' [a, at1]) 0 0) wi 0 0 3 [(0, .ref a), (1, .int x), (2, .int (shf k))] [] := by
    intro q
    induction q with
    | zero => intro k wi fi h1 h2; omega
    | succ q ih =>
      intro k wi fi hk1 hk2 hai hti hfi hlo hby hKi
      by_cases hk : k = 4
      · subst hk
        refine j_iload_n (i := 2) (t := 4) C d_T_putOnTape_3 rfl rfl rfl ?_
        refine j_if_lt (tgt := 46) (t := 7) C d_T_putOnTape_4 (by decide) rfl (fun h4 => ?_) (fun h4 => absurd h4 (by decide))
        exact j_vret C d_T_putOnTape_46 (⟨rfl, hai, ⟨fi, hti, hfi, hlo, hby⟩, hKi⟩) (by omega) (by omega)
      · have hk3 : k < 4 := by omega
        have hin : vp_in (nI (tn + k)) 1000 := vp_in_nI (by omega) (by omega)
        refine j_iload_n (i := 2) (t := 4) C d_T_putOnTape_3 rfl rfl rfl ?_
        refine j_if_lt (tgt := 46) (t := 7) C d_T_putOnTape_4 (by decide) rfl (fun h4 => absurd h4 (shf_lt k hk3)) (fun h4 => ?_)
        refine j_aload_n (i := 0) (t := 8) C d_T_putOnTape_7 rfl rfl (by first | exact jrv_r | exact jrv_n | exact jrv_f) rfl ?_
        refine j_get (t := 11) C fl_T_23 d_T_putOnTape_8 (by assumption) (by first | rfl | assumption) rfl ?_
        refine j_sipush (x := 1000) (t := 14) C d_T_putOnTape_11 rfl rfl ?_
        refine j_icmp_ge (tgt := 46) (t := 17) C d_T_putOnTape_14 (by decide) rfl (fun h14 => absurd h14 (nI_ge (b := 1000) (show tn + k < 1000 by omega) (by decide))) (fun h14 => ?_)
        refine j_aload_n (i := 0) (t := 18) C d_T_putOnTape_17 rfl rfl (by first | exact jrv_r | exact jrv_n | exact jrv_f) rfl ?_
        refine j_get (t := 21) C fl_T_19 d_T_putOnTape_18 (by assumption) (by first | rfl | assumption) rfl ?_
        refine j_aload_n (i := 0) (t := 22) C d_T_putOnTape_21 rfl rfl (by first | exact jrv_r | exact jrv_n | exact jrv_f) rfl ?_
        refine j_get (t := 25) C fl_T_23 d_T_putOnTape_22 (by assumption) (by first | rfl | assumption) rfl ?_
        refine j_iload_n (i := 1) (t := 26) C d_T_putOnTape_25 rfl rfl rfl ?_
        refine j_iload_n (i := 2) (t := 27) C d_T_putOnTape_26 rfl rfl rfl ?_
        refine j_iushr (t := 28) C d_T_putOnTape_27 rfl rfl ?_
        refine j_i2b (t := 29) C d_T_putOnTape_28 rfl rfl ?_
        refine j_bastoreW (t := 30) C d_T_putOnTape_29 (by assumption) (by assumption) rfl (fun w29 e29 h29 f29 => ?_)
        have hai2 := f29 _ _ hne hai
        rw [nI_clamp (by omega)] at h29
        refine j_aload_n (i := 0) (t := 31) C d_T_putOnTape_30 rfl rfl (by first | exact jrv_r | exact jrv_n | exact jrv_f) rfl ?_
        refine j_dup (t := 32) C d_T_putOnTape_31 rfl rfl ?_
        refine j_get (t := 35) C fl_T_23 d_T_putOnTape_32 (by assumption) (by first | rfl | assumption) rfl ?_
        refine j_iconst (x := 1) (t := 36) C d_T_putOnTape_35 rfl rfl ?_
        refine j_iadd (t := 37) C d_T_putOnTape_36 rfl ?_
        refine j_putW (t := 40) C fp_T_23 d_T_putOnTape_37 (by assumption) (by first | rfl | exact jnar_rf) (by first | rfl | exact jfit_rf) (by first | exact Nat.le_of_ble_eq_true rfl | (simp only [List.length_set]; omega)) rfl (fun w37 e37 h37 f37 => ?_)
        have hti2 := f37 _ _ hne.symm h29
        rw [nI_1] at h37
        refine j_iinc (y := _ + (-8)) (t := 43) (lv' := [(0, _), (1, _), (2, _)]) C d_T_putOnTape_40 rfl rfl (by decide) (by decide) rfl rfl ?_
        refine j_goto (tgt := 3) C d_T_putOnTape_43 (by decide) ?_
        rw [shf_next k hk3]
        exact ih (k + 1) w37 _ (by omega) (by omega) h37 hti2 (fit_put hfi (fit_at _)) (fun j hj => by rw [upd_ne (by omega)]; exact hlo j hj) (fun j hj => by
          by_cases q : j = k
          · subst q; rw [upd_self]; exact byt_at hk3
          · rw [upd_ne (by omega)]; exact hby j (by omega)) ((hKi.put f29 (by simp)).put f37 (by simp))
  refine j_bipush (x := 24) (t := 2) C d_T_putOnTape_0 rfl rfl ?_
  refine j_istore_n (i := 2) (t := 3) (lv' := [(0, _), (1, _), (2, _)]) C d_T_putOnTape_2 rfl (by decide) (by decide) rfl rfl ?_
  exact loop 5 0 w f (by omega) (by omega) ha hat hfit (fun _ _ => rfl) (fun j hj => by omega) KA.rf

set_option maxHeartbeats 4000000 in
set_option maxRecDepth 100000 in
/-- keepLiteral -/
theorem c_T_keepLiteral (l : Launch) (a b : Nat) (ac : Nat) (cc1 : Int32) (at1 : Nat) (tnI : Int32) (al : Nat) (as1 : Nat) (snI : Int32) (aw ar : Nat) (znI : Int32) (au : Nat) (unI : Int32) (ln : Nat) (f : Nat → Option Nat) (vfs : List Value) : MC l y_T_keepLiteral b_T_keepLiteral 2 (some .int) 0 0 0
    (fun G w av => av = [.ref a, .ref b] ∧ jh w a (eO cT (tFs ac cc1 at1 tnI al (nI ln) as1 snI aw ar znI au unI)) ∧ jh w al (eR G 5 64 f) ∧ ln < 64 ∧ jh w b (eO cV vfs))
    (fun G w av r w' => r = some (.int (nI ln)) ∧ jh w' a (eO cT (tFs ac cc1 at1 tnI al (nI (ln + 1)) as1 snI aw ar znI au unI)) ∧ jh w' al (eR G 5 64 (va_up f ln (some b))) ∧ KA w w' [a, al]) := by
  refine MC.of 99 (by decide) ?_
  intro X w av hl C hnm hp
  obtain ⟨rfl, ha, hal, hln, hb⟩ := hp
  have hne : a ≠ al := jh_ne ha hal (by simp)
  have hin : vp_in (nI ln) 64 := vp_in_nI hln (by omega)
  refine ⟨[(0, _), (1, _)], rfl, Nat.le_of_ble_eq_true rfl, rfl, ?_⟩
  refine j_aload_n (i := 0) (t := 1) C d_T_keepLiteral_0 rfl rfl (by first | exact jrv_r | exact jrv_n | exact jrv_f) rfl ?_
  refine j_get (t := 4) C fl_T_28 d_T_keepLiteral_1 (by assumption) (by first | rfl | assumption) rfl ?_
  refine j_aload_n (i := 0) (t := 5) C d_T_keepLiteral_4 rfl rfl (by first | exact jrv_r | exact jrv_n | exact jrv_f) rfl ?_
  refine j_get (t := 8) C fl_T_32 d_T_keepLiteral_5 (by assumption) (by first | rfl | assumption) rfl ?_
  refine j_aload_n (i := 1) (t := 9) C d_T_keepLiteral_8 rfl rfl (by first | exact jrv_r | exact jrv_n | exact jrv_f) rfl ?_
  refine j_lv (st' := [va_rf (some b), .int (nI ln), .ref al]) rfl rfl ?_
  refine j_aastoreW (t := 10) C d_T_keepLiteral_9 (by assumption) (fun b2 hb2 => by cases hb2; exact ⟨_, hb⟩) rfl rfl (by assumption) rfl (fun w9 e9 h9 f9 => ?_)
  have ha2 := f9 _ _ hne ha
  rw [nI_clamp (by omega)] at h9
  refine j_aload_n (i := 0) (t := 11) C d_T_keepLiteral_10 rfl rfl (by first | exact jrv_r | exact jrv_n | exact jrv_f) rfl ?_
  refine j_dup (t := 12) C d_T_keepLiteral_11 rfl rfl ?_
  refine j_get (t := 15) C fl_T_32 d_T_keepLiteral_12 (by assumption) (by first | rfl | assumption) rfl ?_
  refine j_iconst (x := 1) (t := 16) C d_T_keepLiteral_15 rfl rfl ?_
  refine j_iadd (t := 17) C d_T_keepLiteral_16 rfl ?_
  refine j_putW (t := 20) C fp_T_32 d_T_keepLiteral_17 (by assumption) (by first | rfl | exact jnar_rf) (by first | rfl | exact jfit_rf) (by first | exact Nat.le_of_ble_eq_true rfl | (simp only [List.length_set]; omega)) rfl (fun w17 e17 h17 f17 => ?_)
  have hal2 := f17 _ _ hne.symm h9
  rw [nI_1] at h17
  refine j_aload_n (i := 0) (t := 21) C d_T_keepLiteral_20 rfl rfl (by first | exact jrv_r | exact jrv_n | exact jrv_f) rfl ?_
  refine j_get (t := 24) C fl_T_32 d_T_keepLiteral_21 (by assumption) (by first | rfl | assumption) rfl ?_
  refine j_iconst (x := 1) (t := 25) C d_T_keepLiteral_24 rfl rfl ?_
  refine j_isub (t := 26) C d_T_keepLiteral_25 rfl ?_
  rw [nI_pred]
  exact j_iret C d_T_keepLiteral_26 rfl (⟨rfl, h17, hal2, (KA.rf.put f9 (by simp)).put f17 (by simp)⟩) (by omega) (by omega)

set_option maxHeartbeats 4000000 in
set_option maxRecDepth 100000 in
/-- TruthScan() -/
theorem c_T_init (l : Launch) (a : Nat) : MC l y_T_init b_T_init 1 (none) 1 7 3208
    (fun G w av => av = [.ref a] ∧ jh w a (eO cT [.null, .int 0, .null, .int 0, .null, .int 0, .null, .int 0, .null, .null, .int 0, .null, .int 0]))
    (fun G w av r w' => r = none ∧ ∃ q0 q1 q2 q3 q4 q5 q6, (q0 ∉ w.1 ∧ q1 ∉ w.1 ∧ q2 ∉ w.1 ∧ q3 ∉ w.1 ∧ q4 ∉ w.1 ∧ q5 ∉ w.1 ∧ q6 ∉ w.1) ∧ [q0, q1, q2, q3, q4, q5, q6].Nodup ∧ jh w' a (eO cT (tFs q0 0 q1 0 q2 0 q3 0 q4 q5 0 q6 0)) ∧ jh w' q0 (eR G 4 16 (fun _ => none)) ∧ jh w' q1 (eB G 1000 (fun _ => 0)) ∧ jh w' q2 (eR G 5 64 (fun _ => none)) ∧ jh w' q3 (eR G 6 64 (fun _ => none)) ∧ jh w' q4 (eI G 64 (fun _ => 0)) ∧ jh w' q5 (eI G 1000 (fun _ => 0)) ∧ jh w' q6 (eI G 1000 (fun _ => 0)) ∧ KA w w' [a]) := by
  refine MC.of 99 (by decide) ?_
  intro X w av hl C hnm hp
  obtain ⟨rfl, ha⟩ := hp
  refine ⟨[(0, _)], rfl, Nat.le_of_ble_eq_true rfl, rfl, ?_⟩
  refine j_aload_n (i := 0) (t := 1) C d_T_init_0 rfl rfl (by first | exact jrv_r | exact jrv_n | exact jrv_f) rfl ?_
  refine j_oinit (t := 4) C d_T_init_1 ml_T_1 im_O cd_O (by decide) (Nat.le_of_ble_eq_true rfl) rfl ?_
  refine j_aload_n (i := 0) (t := 5) C d_T_init_4 rfl rfl (by first | exact jrv_r | exact jrv_n | exact jrv_f) rfl ?_
  refine j_bipush (x := 16) (t := 7) C d_T_init_5 rfl rfl ?_
  refine j_newRW (N := 16) (tk := 4) (t := 10) C d_T_init_7 cl_T_9 (by decide +kernel) rfl rfl (by decide) (by omega) (by omega) rfl (fun a7 w7 n7 e7 h7 f7 => ?_)
  have ha7 := f7 _ _ ha
  have na7 : a ≠ a7 := jh_ne ha7 h7 (by simp)
  refine j_putFW (t := 13) C hnm fp_T_11 d_T_init_10 (by assumption) (by first | rfl | exact jnar_rf) (by first | rfl | exact jfit_rf) (by first | exact Nat.le_of_ble_eq_true rfl | (simp only [List.length_set]; omega)) rfl (fun w10 e10 h10 f10 => ?_)
  have r7_10 := f10 _ _ na7.symm h7
  refine j_aload_n (i := 0) (t := 14) C d_T_init_13 rfl rfl (by first | exact jrv_r | exact jrv_n | exact jrv_f) rfl ?_
  refine j_iconst (x := 0) (t := 15) C d_T_init_14 rfl rfl ?_
  refine j_putW (t := 18) C fp_T_15 d_T_init_15 (by assumption) (by first | rfl | exact jnar_rf) (by first | rfl | exact jfit_rf) (by first | exact Nat.le_of_ble_eq_true rfl | (simp only [List.length_set]; omega)) rfl (fun w15 e15 h15 f15 => ?_)
  have r7_15 := f15 _ _ na7.symm r7_10
  refine j_aload_n (i := 0) (t := 19) C d_T_init_18 rfl rfl (by first | exact jrv_r | exact jrv_n | exact jrv_f) rfl ?_
  refine j_sipush (x := 1000) (t := 22) C d_T_init_19 rfl rfl ?_
  refine j_newBW (N := 1000) (t := 24) C d_T_init_22 ac_B rfl (by decide) (by omega) (by omega) rfl (fun a22 w22 n22 e22 h22 f22 => ?_)
  have ha22 := f22 _ _ h15
  have r7_22 := f22 _ _ r7_15
  have na22 : a ≠ a22 := jh_ne ha22 h22 (by simp)
  refine j_putFW (t := 27) C hnm fp_T_19 d_T_init_24 (by assumption) (by first | rfl | exact jnar_rf) (by first | rfl | exact jfit_rf) (by first | exact Nat.le_of_ble_eq_true rfl | (simp only [List.length_set]; omega)) rfl (fun w24 e24 h24 f24 => ?_)
  have r7_24 := f24 _ _ na7.symm r7_22
  have r22_24 := f24 _ _ na22.symm h22
  refine j_aload_n (i := 0) (t := 28) C d_T_init_27 rfl rfl (by first | exact jrv_r | exact jrv_n | exact jrv_f) rfl ?_
  refine j_iconst (x := 0) (t := 29) C d_T_init_28 rfl rfl ?_
  refine j_putW (t := 32) C fp_T_23 d_T_init_29 (by assumption) (by first | rfl | exact jnar_rf) (by first | rfl | exact jfit_rf) (by first | exact Nat.le_of_ble_eq_true rfl | (simp only [List.length_set]; omega)) rfl (fun w29 e29 h29 f29 => ?_)
  have r7_29 := f29 _ _ na7.symm r7_24
  have r22_29 := f29 _ _ na22.symm r22_24
  refine j_aload_n (i := 0) (t := 33) C d_T_init_32 rfl rfl (by first | exact jrv_r | exact jrv_n | exact jrv_f) rfl ?_
  refine j_bipush (x := 64) (t := 35) C d_T_init_33 rfl rfl ?_
  refine j_newRW (N := 64) (tk := 5) (t := 38) C d_T_init_35 cl_T_26 (by decide +kernel) rfl rfl (by decide) (by omega) (by omega) rfl (fun a35 w35 n35 e35 h35 f35 => ?_)
  have ha35 := f35 _ _ h29
  have r7_35 := f35 _ _ r7_29
  have r22_35 := f35 _ _ r22_29
  have na35 : a ≠ a35 := jh_ne ha35 h35 (by simp)
  refine j_putFW (t := 41) C hnm fp_T_28 d_T_init_38 (by assumption) (by first | rfl | exact jnar_rf) (by first | rfl | exact jfit_rf) (by first | exact Nat.le_of_ble_eq_true rfl | (simp only [List.length_set]; omega)) rfl (fun w38 e38 h38 f38 => ?_)
  have r7_38 := f38 _ _ na7.symm r7_35
  have r22_38 := f38 _ _ na22.symm r22_35
  have r35_38 := f38 _ _ na35.symm h35
  refine j_aload_n (i := 0) (t := 42) C d_T_init_41 rfl rfl (by first | exact jrv_r | exact jrv_n | exact jrv_f) rfl ?_
  refine j_iconst (x := 0) (t := 43) C d_T_init_42 rfl rfl ?_
  refine j_putW (t := 46) C fp_T_32 d_T_init_43 (by assumption) (by first | rfl | exact jnar_rf) (by first | rfl | exact jfit_rf) (by first | exact Nat.le_of_ble_eq_true rfl | (simp only [List.length_set]; omega)) rfl (fun w43 e43 h43 f43 => ?_)
  have r7_43 := f43 _ _ na7.symm r7_38
  have r22_43 := f43 _ _ na22.symm r22_38
  have r35_43 := f43 _ _ na35.symm r35_38
  refine j_aload_n (i := 0) (t := 47) C d_T_init_46 rfl rfl (by first | exact jrv_r | exact jrv_n | exact jrv_f) rfl ?_
  refine j_bipush (x := 64) (t := 49) C d_T_init_47 rfl rfl ?_
  refine j_newRW (N := 64) (tk := 6) (t := 52) C d_T_init_49 cl_T_35 (by decide +kernel) rfl rfl (by decide) (by omega) (by omega) rfl (fun a49 w49 n49 e49 h49 f49 => ?_)
  have ha49 := f49 _ _ h43
  have r7_49 := f49 _ _ r7_43
  have r22_49 := f49 _ _ r22_43
  have r35_49 := f49 _ _ r35_43
  have na49 : a ≠ a49 := jh_ne ha49 h49 (by simp)
  refine j_putFW (t := 55) C hnm fp_T_37 d_T_init_52 (by assumption) (by first | rfl | exact jnar_rf) (by first | rfl | exact jfit_rf) (by first | exact Nat.le_of_ble_eq_true rfl | (simp only [List.length_set]; omega)) rfl (fun w52 e52 h52 f52 => ?_)
  have r7_52 := f52 _ _ na7.symm r7_49
  have r22_52 := f52 _ _ na22.symm r22_49
  have r35_52 := f52 _ _ na35.symm r35_49
  have r49_52 := f52 _ _ na49.symm h49
  refine j_aload_n (i := 0) (t := 56) C d_T_init_55 rfl rfl (by first | exact jrv_r | exact jrv_n | exact jrv_f) rfl ?_
  refine j_iconst (x := 0) (t := 57) C d_T_init_56 rfl rfl ?_
  refine j_putW (t := 60) C fp_T_41 d_T_init_57 (by assumption) (by first | rfl | exact jnar_rf) (by first | rfl | exact jfit_rf) (by first | exact Nat.le_of_ble_eq_true rfl | (simp only [List.length_set]; omega)) rfl (fun w57 e57 h57 f57 => ?_)
  have r7_57 := f57 _ _ na7.symm r7_52
  have r22_57 := f57 _ _ na22.symm r22_52
  have r35_57 := f57 _ _ na35.symm r35_52
  have r49_57 := f57 _ _ na49.symm r49_52
  refine j_aload_n (i := 0) (t := 61) C d_T_init_60 rfl rfl (by first | exact jrv_r | exact jrv_n | exact jrv_f) rfl ?_
  refine j_bipush (x := 64) (t := 63) C d_T_init_61 rfl rfl ?_
  refine j_newIW (N := 64) (t := 65) C d_T_init_63 ac_I rfl (by decide) (by omega) (by omega) rfl (fun a63 w63 n63 e63 h63 f63 => ?_)
  have ha63 := f63 _ _ h57
  have r7_63 := f63 _ _ r7_57
  have r22_63 := f63 _ _ r22_57
  have r35_63 := f63 _ _ r35_57
  have r49_63 := f63 _ _ r49_57
  have na63 : a ≠ a63 := jh_ne ha63 h63 (by simp)
  refine j_putFW (t := 68) C hnm fp_T_44 d_T_init_65 (by assumption) (by first | rfl | exact jnar_rf) (by first | rfl | exact jfit_rf) (by first | exact Nat.le_of_ble_eq_true rfl | (simp only [List.length_set]; omega)) rfl (fun w65 e65 h65 f65 => ?_)
  have r7_65 := f65 _ _ na7.symm r7_63
  have r22_65 := f65 _ _ na22.symm r22_63
  have r35_65 := f65 _ _ na35.symm r35_63
  have r49_65 := f65 _ _ na49.symm r49_63
  have r63_65 := f65 _ _ na63.symm h63
  refine j_aload_n (i := 0) (t := 69) C d_T_init_68 rfl rfl (by first | exact jrv_r | exact jrv_n | exact jrv_f) rfl ?_
  refine j_sipush (x := 1000) (t := 72) C d_T_init_69 rfl rfl ?_
  refine j_newIW (N := 1000) (t := 74) C d_T_init_72 ac_I rfl (by decide) (by omega) (by omega) rfl (fun a72 w72 n72 e72 h72 f72 => ?_)
  have ha72 := f72 _ _ h65
  have r7_72 := f72 _ _ r7_65
  have r22_72 := f72 _ _ r22_65
  have r35_72 := f72 _ _ r35_65
  have r49_72 := f72 _ _ r49_65
  have r63_72 := f72 _ _ r63_65
  have na72 : a ≠ a72 := jh_ne ha72 h72 (by simp)
  refine j_putFW (t := 77) C hnm fp_T_48 d_T_init_74 (by assumption) (by first | rfl | exact jnar_rf) (by first | rfl | exact jfit_rf) (by first | exact Nat.le_of_ble_eq_true rfl | (simp only [List.length_set]; omega)) rfl (fun w74 e74 h74 f74 => ?_)
  have r7_74 := f74 _ _ na7.symm r7_72
  have r22_74 := f74 _ _ na22.symm r22_72
  have r35_74 := f74 _ _ na35.symm r35_72
  have r49_74 := f74 _ _ na49.symm r49_72
  have r63_74 := f74 _ _ na63.symm r63_72
  have r72_74 := f74 _ _ na72.symm h72
  refine j_aload_n (i := 0) (t := 78) C d_T_init_77 rfl rfl (by first | exact jrv_r | exact jrv_n | exact jrv_f) rfl ?_
  refine j_iconst (x := 0) (t := 79) C d_T_init_78 rfl rfl ?_
  refine j_putW (t := 82) C fp_T_51 d_T_init_79 (by assumption) (by first | rfl | exact jnar_rf) (by first | rfl | exact jfit_rf) (by first | exact Nat.le_of_ble_eq_true rfl | (simp only [List.length_set]; omega)) rfl (fun w79 e79 h79 f79 => ?_)
  have r7_79 := f79 _ _ na7.symm r7_74
  have r22_79 := f79 _ _ na22.symm r22_74
  have r35_79 := f79 _ _ na35.symm r35_74
  have r49_79 := f79 _ _ na49.symm r49_74
  have r63_79 := f79 _ _ na63.symm r63_74
  have r72_79 := f79 _ _ na72.symm r72_74
  refine j_aload_n (i := 0) (t := 83) C d_T_init_82 rfl rfl (by first | exact jrv_r | exact jrv_n | exact jrv_f) rfl ?_
  refine j_sipush (x := 1000) (t := 86) C d_T_init_83 rfl rfl ?_
  refine j_newIW (N := 1000) (t := 88) C d_T_init_86 ac_I rfl (by decide) (by omega) (by omega) rfl (fun a86 w86 n86 e86 h86 f86 => ?_)
  have ha86 := f86 _ _ h79
  have r7_86 := f86 _ _ r7_79
  have r22_86 := f86 _ _ r22_79
  have r35_86 := f86 _ _ r35_79
  have r49_86 := f86 _ _ r49_79
  have r63_86 := f86 _ _ r63_79
  have r72_86 := f86 _ _ r72_79
  have na86 : a ≠ a86 := jh_ne ha86 h86 (by simp)
  refine j_putFW (t := 91) C hnm fp_T_54 d_T_init_88 (by assumption) (by first | rfl | exact jnar_rf) (by first | rfl | exact jfit_rf) (by first | exact Nat.le_of_ble_eq_true rfl | (simp only [List.length_set]; omega)) rfl (fun w88 e88 h88 f88 => ?_)
  have r7_88 := f88 _ _ na7.symm r7_86
  have r22_88 := f88 _ _ na22.symm r22_86
  have r35_88 := f88 _ _ na35.symm r35_86
  have r49_88 := f88 _ _ na49.symm r49_86
  have r63_88 := f88 _ _ na63.symm r63_86
  have r72_88 := f88 _ _ na72.symm r72_86
  have r86_88 := f88 _ _ na86.symm h86
  refine j_aload_n (i := 0) (t := 92) C d_T_init_91 rfl rfl (by first | exact jrv_r | exact jrv_n | exact jrv_f) rfl ?_
  refine j_iconst (x := 0) (t := 93) C d_T_init_92 rfl rfl ?_
  refine j_putW (t := 96) C fp_T_57 d_T_init_93 (by assumption) (by first | rfl | exact jnar_rf) (by first | rfl | exact jfit_rf) (by first | exact Nat.le_of_ble_eq_true rfl | (simp only [List.length_set]; omega)) rfl (fun w93 e93 h93 f93 => ?_)
  have r7_93 := f93 _ _ na7.symm r7_88
  have r22_93 := f93 _ _ na22.symm r22_88
  have r35_93 := f93 _ _ na35.symm r35_88
  have r49_93 := f93 _ _ na49.symm r49_88
  have r63_93 := f93 _ _ na63.symm r63_88
  have r72_93 := f93 _ _ na72.symm r72_88
  have r86_93 := f93 _ _ na86.symm r86_88
  simp only [mem_u e10, mem_u e15, mem_u e24, mem_u e29, mem_u e38, mem_u e43, mem_u e52, mem_u e57, mem_u e65, mem_u e74, mem_u e79, mem_u e88, mem_u e93, mem_n e7, mem_n e22, mem_n e35, mem_n e49, mem_n e63, mem_n e72, mem_n e86, List.mem_append, List.mem_singleton, not_or] at n7 n22 n35 n49 n63 n72 n86
  exact j_vret C d_T_init_96 (⟨rfl, a7, a22, a35, a49, a63, a72, a86, ⟨n7, n22.1, n35.1.1, n49.1.1.1, n63.1.1.1.1, n72.1.1.1.1.1, n86.1.1.1.1.1.1⟩, by simp only [List.nodup_cons, List.mem_cons, List.not_mem_nil, or_false, not_or, List.nodup_nil, and_true, not_false_eq_true]; exact ⟨⟨fun z => n22.2 z.symm, fun z => n35.1.2 z.symm, fun z => n49.1.1.2 z.symm, fun z => n63.1.1.1.2 z.symm, fun z => n72.1.1.1.1.2 z.symm, fun z => n86.1.1.1.1.1.2 z.symm⟩, ⟨fun z => n35.2 z.symm, fun z => n49.1.2 z.symm, fun z => n63.1.1.2 z.symm, fun z => n72.1.1.1.2 z.symm, fun z => n86.1.1.1.1.2 z.symm⟩, ⟨fun z => n49.2 z.symm, fun z => n63.1.2 z.symm, fun z => n72.1.1.2 z.symm, fun z => n86.1.1.1.2 z.symm⟩, ⟨fun z => n63.2 z.symm, fun z => n72.1.2 z.symm, fun z => n86.1.1.2 z.symm⟩, ⟨fun z => n72.2 z.symm, fun z => n86.1.2 z.symm⟩, fun z => n86.2 z.symm⟩, h93, r7_93, r22_93, r35_93, r49_93, r63_93, r72_93, r86_93, ((((((((((((((((((((KA.rf.new f7).put f10 (by simp)).put f15 (by simp)).new f22).put f24 (by simp)).put f29 (by simp)).new f35).put f38 (by simp)).put f43 (by simp)).new f49).put f52 (by simp)).put f57 (by simp)).new f63).put f65 (by simp)).new f72).put f74 (by simp)).put f79 (by simp)).new f86).put f88 (by simp)).put f93 (by simp))⟩) (by omega) (by omega)
