set_option maxHeartbeats 4000000 in
set_option maxRecDepth 100000 in
/-- has -/
theorem c_T_has (l : Launch) (x t : Int32) : MC l y_T_has b_T_has 2 (some .boolean) 0 0 0
    (fun G w av => av = [.int x, .int t])
    (fun G w av r w' => w' = w ∧ r = some (.int (bI (hs x t)))) := by
  refine MC.of 99 (by decide) ?_
  intro X w av hl C hnm hp
  obtain rfl := hp
  refine ⟨[(0, _), (1, _)], rfl, Nat.le_of_ble_eq_true rfl, rfl, ?_⟩
  refine j_iload_n (i := 0) (t := 1) C d_T_has_0 rfl rfl rfl ?_
  refine j_iload_n (i := 1) (t := 2) C d_T_has_1 rfl rfl rfl ?_
  refine j_iand (t := 3) C d_T_has_2 rfl ?_
  refine j_if_eq (tgt := 10) (t := 6) C d_T_has_3 (by decide) rfl (fun h3 => ?_) (fun h3 => ?_)
  · refine j_iconst (x := 0) (t := 11) C d_T_has_10 rfl rfl ?_
    exact j_iret C d_T_has_11 rfl (⟨rfl, by simp_all [bI, hs]⟩) (by omega) (by omega)
  · refine j_iconst (x := 1) (t := 7) C d_T_has_6 rfl rfl ?_
    refine j_goto (tgt := 11) C d_T_has_7 (by decide) ?_
    exact j_iret C d_T_has_11 rfl (⟨rfl, by simp_all [bI, hs]⟩) (by omega) (by omega)

set_option maxHeartbeats 4000000 in
set_option maxRecDepth 100000 in
/-- truthSet -/
theorem c_T_truthSet (l : Launch) (p q s : Bool) : MC l y_T_truthSet b_T_truthSet 3 (some .int) 0 0 0
    (fun G w av => av = [.int (bI p), .int (bI q), .int (bI s)])
    (fun G w av r w' => w' = w ∧ r = some (.int (trS p q s))) := by
  refine MC.of 99 (by decide) ?_
  intro X w av hl C hnm hp
  obtain rfl := hp
  refine ⟨[(0, _), (1, _), (2, _)], rfl, Nat.le_of_ble_eq_true rfl, rfl, ?_⟩
  refine j_iload_n (i := 0) (t := 1) C d_T_truthSet_0 rfl rfl rfl ?_
  refine j_if_eq (tgt := 8) (t := 4) C d_T_truthSet_1 (by decide) rfl (fun h1 => ?_) (fun h1 => ?_)
  · refine j_iconst (x := 0) (t := 9) C d_T_truthSet_8 rfl rfl ?_
    refine j_iload_n (i := 1) (t := 10) C d_T_truthSet_9 rfl rfl rfl ?_
    refine j_if_eq (tgt := 17) (t := 13) C d_T_truthSet_10 (by decide) rfl (fun h10 => ?_) (fun h10 => ?_)
    · refine j_iconst (x := 0) (t := 18) C d_T_truthSet_17 rfl rfl ?_
      refine j_ior (t := 19) C d_T_truthSet_18 rfl ?_
      refine j_iload_n (i := 2) (t := 20) C d_T_truthSet_19 rfl rfl rfl ?_
      refine j_if_eq (tgt := 27) (t := 23) C d_T_truthSet_20 (by decide) rfl (fun h20 => ?_) (fun h20 => ?_)
      · refine j_iconst (x := 0) (t := 28) C d_T_truthSet_27 rfl rfl ?_
        refine j_ior (t := 29) C d_T_truthSet_28 rfl ?_
        exact j_iret C d_T_truthSet_29 rfl (⟨rfl, by cases p <;> cases q <;> cases s <;> simp_all [bI] <;> decide⟩) (by omega) (by omega)
      · refine j_iconst (x := 4) (t := 24) C d_T_truthSet_23 rfl rfl ?_
        refine j_goto (tgt := 28) C d_T_truthSet_24 (by decide) ?_
        refine j_ior (t := 29) C d_T_truthSet_28 rfl ?_
        exact j_iret C d_T_truthSet_29 rfl (⟨rfl, by cases p <;> cases q <;> cases s <;> simp_all [bI] <;> decide⟩) (by omega) (by omega)
    · refine j_iconst (x := 2) (t := 14) C d_T_truthSet_13 rfl rfl ?_
      refine j_goto (tgt := 18) C d_T_truthSet_14 (by decide) ?_
      refine j_ior (t := 19) C d_T_truthSet_18 rfl ?_
      refine j_iload_n (i := 2) (t := 20) C d_T_truthSet_19 rfl rfl rfl ?_
      refine j_if_eq (tgt := 27) (t := 23) C d_T_truthSet_20 (by decide) rfl (fun h20 => ?_) (fun h20 => ?_)
      · refine j_iconst (x := 0) (t := 28) C d_T_truthSet_27 rfl rfl ?_
        refine j_ior (t := 29) C d_T_truthSet_28 rfl ?_
        exact j_iret C d_T_truthSet_29 rfl (⟨rfl, by cases p <;> cases q <;> cases s <;> simp_all [bI] <;> decide⟩) (by omega) (by omega)
      · refine j_iconst (x := 4) (t := 24) C d_T_truthSet_23 rfl rfl ?_
        refine j_goto (tgt := 28) C d_T_truthSet_24 (by decide) ?_
        refine j_ior (t := 29) C d_T_truthSet_28 rfl ?_
        exact j_iret C d_T_truthSet_29 rfl (⟨rfl, by cases p <;> cases q <;> cases s <;> simp_all [bI] <;> decide⟩) (by omega) (by omega)
  · refine j_iconst (x := 1) (t := 5) C d_T_truthSet_4 rfl rfl ?_
    refine j_goto (tgt := 9) C d_T_truthSet_5 (by decide) ?_
    refine j_iload_n (i := 1) (t := 10) C d_T_truthSet_9 rfl rfl rfl ?_
    refine j_if_eq (tgt := 17) (t := 13) C d_T_truthSet_10 (by decide) rfl (fun h10 => ?_) (fun h10 => ?_)
    · refine j_iconst (x := 0) (t := 18) C d_T_truthSet_17 rfl rfl ?_
      refine j_ior (t := 19) C d_T_truthSet_18 rfl ?_
      refine j_iload_n (i := 2) (t := 20) C d_T_truthSet_19 rfl rfl rfl ?_
      refine j_if_eq (tgt := 27) (t := 23) C d_T_truthSet_20 (by decide) rfl (fun h20 => ?_) (fun h20 => ?_)
      · refine j_iconst (x := 0) (t := 28) C d_T_truthSet_27 rfl rfl ?_
        refine j_ior (t := 29) C d_T_truthSet_28 rfl ?_
        exact j_iret C d_T_truthSet_29 rfl (⟨rfl, by cases p <;> cases q <;> cases s <;> simp_all [bI] <;> decide⟩) (by omega) (by omega)
      · refine j_iconst (x := 4) (t := 24) C d_T_truthSet_23 rfl rfl ?_
        refine j_goto (tgt := 28) C d_T_truthSet_24 (by decide) ?_
        refine j_ior (t := 29) C d_T_truthSet_28 rfl ?_
        exact j_iret C d_T_truthSet_29 rfl (⟨rfl, by cases p <;> cases q <;> cases s <;> simp_all [bI] <;> decide⟩) (by omega) (by omega)
    · refine j_iconst (x := 2) (t := 14) C d_T_truthSet_13 rfl rfl ?_
      refine j_goto (tgt := 18) C d_T_truthSet_14 (by decide) ?_
      refine j_ior (t := 19) C d_T_truthSet_18 rfl ?_
      refine j_iload_n (i := 2) (t := 20) C d_T_truthSet_19 rfl rfl rfl ?_
      refine j_if_eq (tgt := 27) (t := 23) C d_T_truthSet_20 (by decide) rfl (fun h20 => ?_) (fun h20 => ?_)
      · refine j_iconst (x := 0) (t := 28) C d_T_truthSet_27 rfl rfl ?_
        refine j_ior (t := 29) C d_T_truthSet_28 rfl ?_
        exact j_iret C d_T_truthSet_29 rfl (⟨rfl, by cases p <;> cases q <;> cases s <;> simp_all [bI] <;> decide⟩) (by omega) (by omega)
      · refine j_iconst (x := 4) (t := 24) C d_T_truthSet_23 rfl rfl ?_
        refine j_goto (tgt := 28) C d_T_truthSet_24 (by decide) ?_
        refine j_ior (t := 29) C d_T_truthSet_28 rfl ?_
        exact j_iret C d_T_truthSet_29 rfl (⟨rfl, by cases p <;> cases q <;> cases s <;> simp_all [bI] <;> decide⟩) (by omega) (by omega)

set_option maxHeartbeats 4000000 in
set_option maxRecDepth 100000 in
/-- not -/
theorem c_T_not (l : Launch) (x : Int32) : MC l y_T_not b_T_not 1 (some .int) 1 0 0
    (fun G w av => av = [.int x])
    (fun G w av r w' => w' = w ∧ r = some (.int (nS x))) := by
  refine MC.of 99 (by decide) ?_
  intro X w av hl C hnm hp
  obtain rfl := hp
  refine ⟨[(0, _)], rfl, Nat.le_of_ble_eq_true rfl, rfl, ?_⟩
  refine j_iload_n (i := 0) (t := 1) C d_T_not_0 rfl rfl rfl ?_
  refine j_iconst (x := 2) (t := 2) C d_T_not_1 rfl rfl ?_
  refine j_callS (As := [_, _]) (t := 5) C (c_T_has _ _ _) d_T_not_2 jb_T_has ml_T_181 st_T_has rfl (Nat.le_of_ble_eq_true rfl) (by decide) (by omega) (by omega) (rfl) rfl (fun r2 w2 p2 => ?_)
  obtain ⟨rfl, rfl⟩ := p2
  dsimp only [jst]
  refine j_iload_n (i := 0) (t := 6) C d_T_not_5 rfl rfl rfl ?_
  refine j_iconst (x := 1) (t := 7) C d_T_not_6 rfl rfl ?_
  refine j_callS (As := [_, _]) (t := 10) C (c_T_has _ _ _) d_T_not_7 jb_T_has ml_T_181 st_T_has rfl (Nat.le_of_ble_eq_true rfl) (by decide) (by omega) (by omega) (rfl) rfl (fun r7 w7 p7 => ?_)
  obtain ⟨rfl, rfl⟩ := p7
  dsimp only [jst]
  refine j_iload_n (i := 0) (t := 11) C d_T_not_10 rfl rfl rfl ?_
  refine j_iconst (x := 4) (t := 12) C d_T_not_11 rfl rfl ?_
  refine j_callS (As := [_, _]) (t := 15) C (c_T_has _ _ _) d_T_not_12 jb_T_has ml_T_181 st_T_has rfl (Nat.le_of_ble_eq_true rfl) (by decide) (by omega) (by omega) (rfl) rfl (fun r12 w12 p12 => ?_)
  obtain ⟨rfl, rfl⟩ := p12
  dsimp only [jst]
  refine j_callS (As := [_, _, _]) (t := 18) C (c_T_truthSet _ _ _ _) d_T_not_15 jb_T_truthSet ml_T_184 st_T_truthSet rfl (Nat.le_of_ble_eq_true rfl) (by decide) (by omega) (by omega) (rfl) rfl (fun r15 w15 p15 => ?_)
  obtain ⟨rfl, rfl⟩ := p15
  dsimp only [jst]
  exact j_iret C d_T_not_18 rfl (⟨rfl, rfl⟩) (by omega) (by omega)

set_option maxHeartbeats 4000000 in
set_option maxRecDepth 100000 in
/-- and -/
theorem c_T_and (l : Launch) (x y : Int32) : MC l y_T_and b_T_and 3 (some .int) 1 0 0
    (fun G w av => av = [.int x, .int y])
    (fun G w av r w' => w' = w ∧ r = some (.int (aS x y))) := by
  refine MC.of 99 (by decide) ?_
  intro X w av hl C hnm hp
  obtain rfl := hp
  refine ⟨[(0, _), (1, _)], rfl, Nat.le_of_ble_eq_true rfl, rfl, ?_⟩
  have tail : ∀ u : Bool, u = ((hs x 4 && hs y 6) || (hs y 4 && hs x 6)) → J X (3, 99) (jQ X (fun r w' => w' = w ∧ r = some (.int (aS x y))) 0 0) w 0 0 40 [(0, .int x), (1, .int y), (2, .int (bI u))] [] := by
    intro u hu
    refine j_iload_n (i := 0) (t := 41) C d_T_and_40 rfl rfl rfl ?_
    refine j_iload_n (i := 1) (t := 42) C d_T_and_41 rfl rfl rfl ?_
    refine j_ior (t := 43) C d_T_and_42 rfl ?_
    refine j_iconst (x := 1) (t := 44) C d_T_and_43 rfl rfl ?_
    refine j_callS (As := [_, _]) (t := 47) C (c_T_has _ _ _) d_T_and_44 jb_T_has ml_T_181 st_T_has rfl (Nat.le_of_ble_eq_true rfl) (by decide) (by omega) (by omega) (rfl) rfl (fun r44 w44 p44 => ?_)
    obtain ⟨rfl, rfl⟩ := p44
    dsimp only [jst]
    refine j_iload_n (i := 0) (t := 48) C d_T_and_47 rfl rfl rfl ?_
    refine j_iload_n (i := 1) (t := 49) C d_T_and_48 rfl rfl rfl ?_
    refine j_iand (t := 50) C d_T_and_49 rfl ?_
    refine j_iconst (x := 2) (t := 51) C d_T_and_50 rfl rfl ?_
    refine j_callS (As := [_, _]) (t := 54) C (c_T_has _ _ _) d_T_and_51 jb_T_has ml_T_181 st_T_has rfl (Nat.le_of_ble_eq_true rfl) (by decide) (by omega) (by omega) (rfl) rfl (fun r51 w51 p51 => ?_)
    obtain ⟨rfl, rfl⟩ := p51
    dsimp only [jst]
    refine j_iload_n (i := 2) (t := 55) C d_T_and_54 rfl rfl rfl ?_
    refine j_callS (As := [_, _, _]) (t := 58) C (c_T_truthSet _ _ _ u) d_T_and_55 jb_T_truthSet ml_T_184 st_T_truthSet rfl (Nat.le_of_ble_eq_true rfl) (by decide) (by omega) (by omega) (rfl) rfl (fun r55 w55 p55 => ?_)
    obtain ⟨rfl, rfl⟩ := p55
    dsimp only [jst]
    exact j_iret C d_T_and_58 rfl (⟨rfl, by rw [hu]; rfl⟩) (by omega) (by omega)
  refine j_iload_n (i := 0) (t := 1) C d_T_and_0 rfl rfl rfl ?_
  refine j_iconst (x := 4) (t := 2) C d_T_and_1 rfl rfl ?_
  refine j_callS (As := [_, _]) (t := 5) C (c_T_has _ _ _) d_T_and_2 jb_T_has ml_T_181 st_T_has rfl (Nat.le_of_ble_eq_true rfl) (by decide) (by omega) (by omega) (rfl) rfl (fun r2 w2 p2 => ?_)
  obtain ⟨rfl, rfl⟩ := p2
  dsimp only [jst]
  refine j_if_eq (tgt := 17) (t := 8) C d_T_and_5 (by decide) rfl (fun h5 => ?_) (fun h5 => ?_)
  · refine j_iload_n (i := 1) (t := 18) C d_T_and_17 rfl rfl rfl ?_
    refine j_iconst (x := 4) (t := 19) C d_T_and_18 rfl rfl ?_
    refine j_callS (As := [_, _]) (t := 22) C (c_T_has _ _ _) d_T_and_19 jb_T_has ml_T_181 st_T_has rfl (Nat.le_of_ble_eq_true rfl) (by decide) (by omega) (by omega) (rfl) rfl (fun r19 w19 p19 => ?_)
    obtain ⟨rfl, rfl⟩ := p19
    dsimp only [jst]
    refine j_if_eq (tgt := 38) (t := 25) C d_T_and_22 (by decide) rfl (fun h22 => ?_) (fun h22 => ?_)
    · refine j_iconst (x := 0) (t := 39) C d_T_and_38 rfl rfl ?_
      refine j_istore_n (i := 2) (t := 40) (lv' := [(0, _), (1, _), (2, _)]) C d_T_and_39 rfl (by decide) (by decide) rfl rfl ?_
      first | exact tail true (by clear tail; simp only [bI_0, Bool.not_eq_false] at *; simp_all) | exact tail false (by clear tail; simp only [bI_0, Bool.not_eq_false] at *; simp_all)
    · refine j_iload_n (i := 0) (t := 26) C d_T_and_25 rfl rfl rfl ?_
      refine j_bipush (x := 6) (t := 28) C d_T_and_26 rfl rfl ?_
      refine j_callS (As := [_, _]) (t := 31) C (c_T_has _ _ _) d_T_and_28 jb_T_has ml_T_181 st_T_has rfl (Nat.le_of_ble_eq_true rfl) (by decide) (by omega) (by omega) (rfl) rfl (fun r28 w28 p28 => ?_)
      obtain ⟨rfl, rfl⟩ := p28
      dsimp only [jst]
      refine j_if_eq (tgt := 38) (t := 34) C d_T_and_31 (by decide) rfl (fun h31 => ?_) (fun h31 => ?_)
      · refine j_iconst (x := 0) (t := 39) C d_T_and_38 rfl rfl ?_
        refine j_istore_n (i := 2) (t := 40) (lv' := [(0, _), (1, _), (2, _)]) C d_T_and_39 rfl (by decide) (by decide) rfl rfl ?_
        first | exact tail true (by clear tail; simp only [bI_0, Bool.not_eq_false] at *; simp_all) | exact tail false (by clear tail; simp only [bI_0, Bool.not_eq_false] at *; simp_all)
      · refine j_iconst (x := 1) (t := 35) C d_T_and_34 rfl rfl ?_
        refine j_goto (tgt := 39) C d_T_and_35 (by decide) ?_
        refine j_istore_n (i := 2) (t := 40) (lv' := [(0, _), (1, _), (2, _)]) C d_T_and_39 rfl (by decide) (by decide) rfl rfl ?_
        first | exact tail true (by clear tail; simp only [bI_0, Bool.not_eq_false] at *; simp_all) | exact tail false (by clear tail; simp only [bI_0, Bool.not_eq_false] at *; simp_all)
  · refine j_iload_n (i := 1) (t := 9) C d_T_and_8 rfl rfl rfl ?_
    refine j_bipush (x := 6) (t := 11) C d_T_and_9 rfl rfl ?_
    refine j_callS (As := [_, _]) (t := 14) C (c_T_has _ _ _) d_T_and_11 jb_T_has ml_T_181 st_T_has rfl (Nat.le_of_ble_eq_true rfl) (by decide) (by omega) (by omega) (rfl) rfl (fun r11 w11 p11 => ?_)
    obtain ⟨rfl, rfl⟩ := p11
    dsimp only [jst]
    refine j_if_ne (tgt := 34) (t := 17) C d_T_and_14 (by decide) rfl (fun h14 => ?_) (fun h14 => ?_)
    · refine j_iconst (x := 1) (t := 35) C d_T_and_34 rfl rfl ?_
      refine j_goto (tgt := 39) C d_T_and_35 (by decide) ?_
      refine j_istore_n (i := 2) (t := 40) (lv' := [(0, _), (1, _), (2, _)]) C d_T_and_39 rfl (by decide) (by decide) rfl rfl ?_
      first | exact tail true (by clear tail; simp only [bI_0, Bool.not_eq_false] at *; simp_all) | exact tail false (by clear tail; simp only [bI_0, Bool.not_eq_false] at *; simp_all)
    · refine j_iload_n (i := 1) (t := 18) C d_T_and_17 rfl rfl rfl ?_
      refine j_iconst (x := 4) (t := 19) C d_T_and_18 rfl rfl ?_
      refine j_callS (As := [_, _]) (t := 22) C (c_T_has _ _ _) d_T_and_19 jb_T_has ml_T_181 st_T_has rfl (Nat.le_of_ble_eq_true rfl) (by decide) (by omega) (by omega) (rfl) rfl (fun r19 w19 p19 => ?_)
      obtain ⟨rfl, rfl⟩ := p19
      dsimp only [jst]
      refine j_if_eq (tgt := 38) (t := 25) C d_T_and_22 (by decide) rfl (fun h22 => ?_) (fun h22 => ?_)
      · refine j_iconst (x := 0) (t := 39) C d_T_and_38 rfl rfl ?_
        refine j_istore_n (i := 2) (t := 40) (lv' := [(0, _), (1, _), (2, _)]) C d_T_and_39 rfl (by decide) (by decide) rfl rfl ?_
        first | exact tail true (by clear tail; simp only [bI_0, Bool.not_eq_false] at *; simp_all) | exact tail false (by clear tail; simp only [bI_0, Bool.not_eq_false] at *; simp_all)
      · refine j_iload_n (i := 0) (t := 26) C d_T_and_25 rfl rfl rfl ?_
        refine j_bipush (x := 6) (t := 28) C d_T_and_26 rfl rfl ?_
        refine j_callS (As := [_, _]) (t := 31) C (c_T_has _ _ _) d_T_and_28 jb_T_has ml_T_181 st_T_has rfl (Nat.le_of_ble_eq_true rfl) (by decide) (by omega) (by omega) (rfl) rfl (fun r28 w28 p28 => ?_)
        obtain ⟨rfl, rfl⟩ := p28
        dsimp only [jst]
        refine j_if_eq (tgt := 38) (t := 34) C d_T_and_31 (by decide) rfl (fun h31 => ?_) (fun h31 => ?_)
        · refine j_iconst (x := 0) (t := 39) C d_T_and_38 rfl rfl ?_
          refine j_istore_n (i := 2) (t := 40) (lv' := [(0, _), (1, _), (2, _)]) C d_T_and_39 rfl (by decide) (by decide) rfl rfl ?_
          first | exact tail true (by clear tail; simp only [bI_0, Bool.not_eq_false] at *; simp_all) | exact tail false (by clear tail; simp only [bI_0, Bool.not_eq_false] at *; simp_all)
        · refine j_iconst (x := 1) (t := 35) C d_T_and_34 rfl rfl ?_
          refine j_goto (tgt := 39) C d_T_and_35 (by decide) ?_
          refine j_istore_n (i := 2) (t := 40) (lv' := [(0, _), (1, _), (2, _)]) C d_T_and_39 rfl (by decide) (by decide) rfl rfl ?_
          first | exact tail true (by clear tail; simp only [bI_0, Bool.not_eq_false] at *; simp_all) | exact tail false (by clear tail; simp only [bI_0, Bool.not_eq_false] at *; simp_all)

set_option maxHeartbeats 4000000 in
set_option maxRecDepth 100000 in
/-- or -/
theorem c_T_or (l : Launch) (x y : Int32) : MC l y_T_or b_T_or 3 (some .int) 1 0 0
    (fun G w av => av = [.int x, .int y])
    (fun G w av r w' => w' = w ∧ r = some (.int (oS x y))) := by
  refine MC.of 99 (by decide) ?_
  intro X w av hl C hnm hp
  obtain rfl := hp
  refine ⟨[(0, _), (1, _)], rfl, Nat.le_of_ble_eq_true rfl, rfl, ?_⟩
  have tail : ∀ u : Bool, u = ((hs x 4 && hs y 5) || (hs y 4 && hs x 5)) → J X (3, 99) (jQ X (fun r w' => w' = w ∧ r = some (.int (oS x y))) 0 0) w 0 0 38 [(0, .int x), (1, .int y), (2, .int (bI u))] [] := by
    intro u hu
    refine j_iload_n (i := 0) (t := 39) C d_T_or_38 rfl rfl rfl ?_
    refine j_iload_n (i := 1) (t := 40) C d_T_or_39 rfl rfl rfl ?_
    refine j_iand (t := 41) C d_T_or_40 rfl ?_
    refine j_iconst (x := 1) (t := 42) C d_T_or_41 rfl rfl ?_
    refine j_callS (As := [_, _]) (t := 45) C (c_T_has _ _ _) d_T_or_42 jb_T_has ml_T_181 st_T_has rfl (Nat.le_of_ble_eq_true rfl) (by decide) (by omega) (by omega) (rfl) rfl (fun r42 w42 p42 => ?_)
    obtain ⟨rfl, rfl⟩ := p42
    dsimp only [jst]
    refine j_iload_n (i := 0) (t := 46) C d_T_or_45 rfl rfl rfl ?_
    refine j_iload_n (i := 1) (t := 47) C d_T_or_46 rfl rfl rfl ?_
    refine j_ior (t := 48) C d_T_or_47 rfl ?_
    refine j_iconst (x := 2) (t := 49) C d_T_or_48 rfl rfl ?_
    refine j_callS (As := [_, _]) (t := 52) C (c_T_has _ _ _) d_T_or_49 jb_T_has ml_T_181 st_T_has rfl (Nat.le_of_ble_eq_true rfl) (by decide) (by omega) (by omega) (rfl) rfl (fun r49 w49 p49 => ?_)
    obtain ⟨rfl, rfl⟩ := p49
    dsimp only [jst]
    refine j_iload_n (i := 2) (t := 53) C d_T_or_52 rfl rfl rfl ?_
    refine j_callS (As := [_, _, _]) (t := 56) C (c_T_truthSet _ _ _ u) d_T_or_53 jb_T_truthSet ml_T_184 st_T_truthSet rfl (Nat.le_of_ble_eq_true rfl) (by decide) (by omega) (by omega) (rfl) rfl (fun r53 w53 p53 => ?_)
    obtain ⟨rfl, rfl⟩ := p53
    dsimp only [jst]
    exact j_iret C d_T_or_56 rfl (⟨rfl, by rw [hu]; rfl⟩) (by omega) (by omega)
  refine j_iload_n (i := 0) (t := 1) C d_T_or_0 rfl rfl rfl ?_
  refine j_iconst (x := 4) (t := 2) C d_T_or_1 rfl rfl ?_
  refine j_callS (As := [_, _]) (t := 5) C (c_T_has _ _ _) d_T_or_2 jb_T_has ml_T_181 st_T_has rfl (Nat.le_of_ble_eq_true rfl) (by decide) (by omega) (by omega) (rfl) rfl (fun r2 w2 p2 => ?_)
  obtain ⟨rfl, rfl⟩ := p2
  dsimp only [jst]
  refine j_if_eq (tgt := 16) (t := 8) C d_T_or_5 (by decide) rfl (fun h5 => ?_) (fun h5 => ?_)
  · refine j_iload_n (i := 1) (t := 17) C d_T_or_16 rfl rfl rfl ?_
    refine j_iconst (x := 4) (t := 18) C d_T_or_17 rfl rfl ?_
    refine j_callS (As := [_, _]) (t := 21) C (c_T_has _ _ _) d_T_or_18 jb_T_has ml_T_181 st_T_has rfl (Nat.le_of_ble_eq_true rfl) (by decide) (by omega) (by omega) (rfl) rfl (fun r18 w18 p18 => ?_)
    obtain ⟨rfl, rfl⟩ := p18
    dsimp only [jst]
    refine j_if_eq (tgt := 36) (t := 24) C d_T_or_21 (by decide) rfl (fun h21 => ?_) (fun h21 => ?_)
    · refine j_iconst (x := 0) (t := 37) C d_T_or_36 rfl rfl ?_
      refine j_istore_n (i := 2) (t := 38) (lv' := [(0, _), (1, _), (2, _)]) C d_T_or_37 rfl (by decide) (by decide) rfl rfl ?_
      first | exact tail true (by clear tail; simp only [bI_0, Bool.not_eq_false] at *; simp_all) | exact tail false (by clear tail; simp only [bI_0, Bool.not_eq_false] at *; simp_all)
    · refine j_iload_n (i := 0) (t := 25) C d_T_or_24 rfl rfl rfl ?_
      refine j_iconst (x := 5) (t := 26) C d_T_or_25 rfl rfl ?_
      refine j_callS (As := [_, _]) (t := 29) C (c_T_has _ _ _) d_T_or_26 jb_T_has ml_T_181 st_T_has rfl (Nat.le_of_ble_eq_true rfl) (by decide) (by omega) (by omega) (rfl) rfl (fun r26 w26 p26 => ?_)
      obtain ⟨rfl, rfl⟩ := p26
      dsimp only [jst]
      refine j_if_eq (tgt := 36) (t := 32) C d_T_or_29 (by decide) rfl (fun h29 => ?_) (fun h29 => ?_)
      · refine j_iconst (x := 0) (t := 37) C d_T_or_36 rfl rfl ?_
        refine j_istore_n (i := 2) (t := 38) (lv' := [(0, _), (1, _), (2, _)]) C d_T_or_37 rfl (by decide) (by decide) rfl rfl ?_
        first | exact tail true (by clear tail; simp only [bI_0, Bool.not_eq_false] at *; simp_all) | exact tail false (by clear tail; simp only [bI_0, Bool.not_eq_false] at *; simp_all)
      · refine j_iconst (x := 1) (t := 33) C d_T_or_32 rfl rfl ?_
        refine j_goto (tgt := 37) C d_T_or_33 (by decide) ?_
        refine j_istore_n (i := 2) (t := 38) (lv' := [(0, _), (1, _), (2, _)]) C d_T_or_37 rfl (by decide) (by decide) rfl rfl ?_
        first | exact tail true (by clear tail; simp only [bI_0, Bool.not_eq_false] at *; simp_all) | exact tail false (by clear tail; simp only [bI_0, Bool.not_eq_false] at *; simp_all)
  · refine j_iload_n (i := 1) (t := 9) C d_T_or_8 rfl rfl rfl ?_
    refine j_iconst (x := 5) (t := 10) C d_T_or_9 rfl rfl ?_
    refine j_callS (As := [_, _]) (t := 13) C (c_T_has _ _ _) d_T_or_10 jb_T_has ml_T_181 st_T_has rfl (Nat.le_of_ble_eq_true rfl) (by decide) (by omega) (by omega) (rfl) rfl (fun r10 w10 p10 => ?_)
    obtain ⟨rfl, rfl⟩ := p10
    dsimp only [jst]
    refine j_if_ne (tgt := 32) (t := 16) C d_T_or_13 (by decide) rfl (fun h13 => ?_) (fun h13 => ?_)
    · refine j_iconst (x := 1) (t := 33) C d_T_or_32 rfl rfl ?_
      refine j_goto (tgt := 37) C d_T_or_33 (by decide) ?_
      refine j_istore_n (i := 2) (t := 38) (lv' := [(0, _), (1, _), (2, _)]) C d_T_or_37 rfl (by decide) (by decide) rfl rfl ?_
      first | exact tail true (by clear tail; simp only [bI_0, Bool.not_eq_false] at *; simp_all) | exact tail false (by clear tail; simp only [bI_0, Bool.not_eq_false] at *; simp_all)
    · refine j_iload_n (i := 1) (t := 17) C d_T_or_16 rfl rfl rfl ?_
      refine j_iconst (x := 4) (t := 18) C d_T_or_17 rfl rfl ?_
      refine j_callS (As := [_, _]) (t := 21) C (c_T_has _ _ _) d_T_or_18 jb_T_has ml_T_181 st_T_has rfl (Nat.le_of_ble_eq_true rfl) (by decide) (by omega) (by omega) (rfl) rfl (fun r18 w18 p18 => ?_)
      obtain ⟨rfl, rfl⟩ := p18
      dsimp only [jst]
      refine j_if_eq (tgt := 36) (t := 24) C d_T_or_21 (by decide) rfl (fun h21 => ?_) (fun h21 => ?_)
      · refine j_iconst (x := 0) (t := 37) C d_T_or_36 rfl rfl ?_
        refine j_istore_n (i := 2) (t := 38) (lv' := [(0, _), (1, _), (2, _)]) C d_T_or_37 rfl (by decide) (by decide) rfl rfl ?_
        first | exact tail true (by clear tail; simp only [bI_0, Bool.not_eq_false] at *; simp_all) | exact tail false (by clear tail; simp only [bI_0, Bool.not_eq_false] at *; simp_all)
      · refine j_iload_n (i := 0) (t := 25) C d_T_or_24 rfl rfl rfl ?_
        refine j_iconst (x := 5) (t := 26) C d_T_or_25 rfl rfl ?_
        refine j_callS (As := [_, _]) (t := 29) C (c_T_has _ _ _) d_T_or_26 jb_T_has ml_T_181 st_T_has rfl (Nat.le_of_ble_eq_true rfl) (by decide) (by omega) (by omega) (rfl) rfl (fun r26 w26 p26 => ?_)
        obtain ⟨rfl, rfl⟩ := p26
        dsimp only [jst]
        refine j_if_eq (tgt := 36) (t := 32) C d_T_or_29 (by decide) rfl (fun h29 => ?_) (fun h29 => ?_)
        · refine j_iconst (x := 0) (t := 37) C d_T_or_36 rfl rfl ?_
          refine j_istore_n (i := 2) (t := 38) (lv' := [(0, _), (1, _), (2, _)]) C d_T_or_37 rfl (by decide) (by decide) rfl rfl ?_
          first | exact tail true (by clear tail; simp only [bI_0, Bool.not_eq_false] at *; simp_all) | exact tail false (by clear tail; simp only [bI_0, Bool.not_eq_false] at *; simp_all)
        · refine j_iconst (x := 1) (t := 33) C d_T_or_32 rfl rfl ?_
          refine j_goto (tgt := 37) C d_T_or_33 (by decide) ?_
          refine j_istore_n (i := 2) (t := 38) (lv' := [(0, _), (1, _), (2, _)]) C d_T_or_37 rfl (by decide) (by decide) rfl rfl ?_
          first | exact tail true (by clear tail; simp only [bI_0, Bool.not_eq_false] at *; simp_all) | exact tail false (by clear tail; simp only [bI_0, Bool.not_eq_false] at *; simp_all)

set_option maxHeartbeats 4000000 in
set_option maxRecDepth 100000 in
/-- holds -/
theorem c_T_holds (l : Launch) (op x : Int32) : MC l y_T_holds b_T_holds 2 (some .boolean) 0 0 0
    (fun G w av => av = [.int op, .int x])
    (fun G w av r w' => w' = w ∧ r = some (.int (bI (hO op x)))) := by
  refine MC.of 99 (by decide) ?_
  intro X w av hl C hnm hp
  obtain rfl := hp
  refine ⟨[(0, _), (1, _)], rfl, Nat.le_of_ble_eq_true rfl, rfl, ?_⟩
  refine j_iload_n (i := 0) (t := 1) C d_T_holds_0 rfl rfl rfl ?_
  by_cases c1_0 : op = 0
  · refine j_tableIn (tgt := 36) C d_T_holds_1 (by rw [c1_0]; decide) (by rw [c1_0]; decide) (by rw [c1_0]; rfl) (by decide) ?_
    refine j_iload_n (i := 1) (t := 37) C d_T_holds_36 rfl rfl rfl ?_
    refine j_if_ne (tgt := 44) (t := 40) C d_T_holds_37 (by decide) rfl (fun h37 => ?_) (fun h37 => ?_)
    · refine j_iconst (x := 0) (t := 45) C d_T_holds_44 rfl rfl ?_
      exact j_iret C d_T_holds_45 rfl (⟨rfl, by simp_all [-Int32.not_lt, -Int32.not_le, bI, hO, i_lt]⟩) (by omega) (by omega)
    · refine j_iconst (x := 1) (t := 41) C d_T_holds_40 rfl rfl ?_
      refine j_goto (tgt := 45) C d_T_holds_41 (by decide) ?_
      exact j_iret C d_T_holds_45 rfl (⟨rfl, by simp_all [-Int32.not_lt, -Int32.not_le, bI, hO, i_lt]⟩) (by omega) (by omega)
  by_cases c1_1 : op = 1
  · refine j_tableIn (tgt := 46) C d_T_holds_1 (by rw [c1_1]; decide) (by rw [c1_1]; decide) (by rw [c1_1]; rfl) (by decide) ?_
    refine j_iload_n (i := 1) (t := 47) C d_T_holds_46 rfl rfl rfl ?_
    refine j_if_eq (tgt := 54) (t := 50) C d_T_holds_47 (by decide) rfl (fun h47 => ?_) (fun h47 => ?_)
    · refine j_iconst (x := 0) (t := 55) C d_T_holds_54 rfl rfl ?_
      exact j_iret C d_T_holds_55 rfl (⟨rfl, by simp_all [-Int32.not_lt, -Int32.not_le, bI, hO, i_lt]⟩) (by omega) (by omega)
    · refine j_iconst (x := 1) (t := 51) C d_T_holds_50 rfl rfl ?_
      refine j_goto (tgt := 55) C d_T_holds_51 (by decide) ?_
      exact j_iret C d_T_holds_55 rfl (⟨rfl, by simp_all [-Int32.not_lt, -Int32.not_le, bI, hO, i_lt]⟩) (by omega) (by omega)
  by_cases c1_2 : op = 2
  · refine j_tableIn (tgt := 56) C d_T_holds_1 (by rw [c1_2]; decide) (by rw [c1_2]; decide) (by rw [c1_2]; rfl) (by decide) ?_
    refine j_iload_n (i := 1) (t := 57) C d_T_holds_56 rfl rfl rfl ?_
    refine j_if_ge (tgt := 64) (t := 60) C d_T_holds_57 (by decide) rfl (fun h57 => ?_) (fun h57 => ?_)
    · refine j_iconst (x := 0) (t := 65) C d_T_holds_64 rfl rfl ?_
      exact j_iret C d_T_holds_65 rfl (⟨rfl, by simp_all [-Int32.not_lt, -Int32.not_le, bI, hO, i_lt]⟩) (by omega) (by omega)
    · refine j_iconst (x := 1) (t := 61) C d_T_holds_60 rfl rfl ?_
      refine j_goto (tgt := 65) C d_T_holds_61 (by decide) ?_
      exact j_iret C d_T_holds_65 rfl (⟨rfl, by simp_all [-Int32.not_lt, -Int32.not_le, bI, hO, i_lt]⟩) (by omega) (by omega)
  by_cases c1_3 : op = 3
  · refine j_tableIn (tgt := 66) C d_T_holds_1 (by rw [c1_3]; decide) (by rw [c1_3]; decide) (by rw [c1_3]; rfl) (by decide) ?_
    refine j_iload_n (i := 1) (t := 67) C d_T_holds_66 rfl rfl rfl ?_
    refine j_if_gt (tgt := 74) (t := 70) C d_T_holds_67 (by decide) rfl (fun h67 => ?_) (fun h67 => ?_)
    · refine j_iconst (x := 0) (t := 75) C d_T_holds_74 rfl rfl ?_
      exact j_iret C d_T_holds_75 rfl (⟨rfl, by simp_all [-Int32.not_lt, -Int32.not_le, bI, hO, i_lt]⟩) (by omega) (by omega)
    · refine j_iconst (x := 1) (t := 71) C d_T_holds_70 rfl rfl ?_
      refine j_goto (tgt := 75) C d_T_holds_71 (by decide) ?_
      exact j_iret C d_T_holds_75 rfl (⟨rfl, by simp_all [-Int32.not_lt, -Int32.not_le, bI, hO, i_lt]⟩) (by omega) (by omega)
  by_cases c1_4 : op = 4
  · refine j_tableIn (tgt := 76) C d_T_holds_1 (by rw [c1_4]; decide) (by rw [c1_4]; decide) (by rw [c1_4]; rfl) (by decide) ?_
    refine j_iload_n (i := 1) (t := 77) C d_T_holds_76 rfl rfl rfl ?_
    refine j_if_le (tgt := 84) (t := 80) C d_T_holds_77 (by decide) rfl (fun h77 => ?_) (fun h77 => ?_)
    · refine j_iconst (x := 0) (t := 85) C d_T_holds_84 rfl rfl ?_
      exact j_iret C d_T_holds_85 rfl (⟨rfl, by simp_all [-Int32.not_lt, -Int32.not_le, bI, hO, i_lt]⟩) (by omega) (by omega)
    · refine j_iconst (x := 1) (t := 81) C d_T_holds_80 rfl rfl ?_
      refine j_goto (tgt := 85) C d_T_holds_81 (by decide) ?_
      exact j_iret C d_T_holds_85 rfl (⟨rfl, by simp_all [-Int32.not_lt, -Int32.not_le, bI, hO, i_lt]⟩) (by omega) (by omega)
  refine j_tableOut (tgt := 86) C d_T_holds_1 (by have q0 := lv_neT c1_0 (a := 0) (by decide); have q1 := lv_neT c1_1 (a := 1) (by decide); have q2 := lv_neT c1_2 (a := 2) (by decide); have q3 := lv_neT c1_3 (a := 3) (by decide); have q4 := lv_neT c1_4 (a := 4) (by decide); omega) (by decide) ?_
  refine j_iload_n (i := 1) (t := 87) C d_T_holds_86 rfl rfl rfl ?_
  refine j_if_lt (tgt := 94) (t := 90) C d_T_holds_87 (by decide) rfl (fun h87 => ?_) (fun h87 => ?_)
  · refine j_iconst (x := 0) (t := 95) C d_T_holds_94 rfl rfl ?_
    exact j_iret C d_T_holds_95 rfl (⟨rfl, by simp_all [-Int32.not_lt, -Int32.not_le, bI, hO, i_lt]⟩) (by omega) (by omega)
  · refine j_iconst (x := 1) (t := 91) C d_T_holds_90 rfl rfl ?_
    refine j_goto (tgt := 95) C d_T_holds_91 (by decide) ?_
    exact j_iret C d_T_holds_95 rfl (⟨rfl, by simp_all [-Int32.not_lt, -Int32.not_le, bI, hO, i_lt]⟩) (by omega) (by omega)

set_option maxHeartbeats 4000000 in
set_option maxRecDepth 100000 in
/-- contrary -/
theorem c_T_contrary (l : Launch) (op : Int32) : MC l y_T_contrary b_T_contrary 1 (some .int) 0 0 0
    (fun G w av => av = [.int op])
    (fun G w av r w' => w' = w ∧ r = some (.int (cO op))) := by
  refine MC.of 99 (by decide) ?_
  intro X w av hl C hnm hp
  obtain rfl := hp
  refine ⟨[(0, _)], rfl, Nat.le_of_ble_eq_true rfl, rfl, ?_⟩
  refine j_iload_n (i := 0) (t := 1) C d_T_contrary_0 rfl rfl rfl ?_
  refine j_iconst (x := 1) (t := 2) C d_T_contrary_1 rfl rfl ?_
  refine j_icmp_gt (tgt := 11) (t := 5) C d_T_contrary_2 (by decide) rfl (fun h2 => ?_) (fun h2 => ?_)
  · refine j_bipush (x := 7) (t := 13) C d_T_contrary_11 rfl rfl ?_
    refine j_iload_n (i := 0) (t := 14) C d_T_contrary_13 rfl rfl rfl ?_
    refine j_isub (t := 15) C d_T_contrary_14 rfl ?_
    exact j_iret C d_T_contrary_15 rfl (⟨rfl, by simp_all [cO]⟩) (by omega) (by omega)
  · refine j_iconst (x := 1) (t := 6) C d_T_contrary_5 rfl rfl ?_
    refine j_iload_n (i := 0) (t := 7) C d_T_contrary_6 rfl rfl rfl ?_
    refine j_isub (t := 8) C d_T_contrary_7 rfl ?_
    refine j_goto (tgt := 15) C d_T_contrary_8 (by decide) ?_
    exact j_iret C d_T_contrary_15 rfl (⟨rfl, by simp_all [cO]⟩) (by omega) (by omega)

set_option maxHeartbeats 4000000 in
set_option maxRecDepth 100000 in
/-- isOperator -/
theorem c_T_isOperator (l : Launch) (op : Int32) : MC l y_T_isOperator b_T_isOperator 1 (some .boolean) 0 0 0
    (fun G w av => av = [.int op])
    (fun G w av r w' => w' = w ∧ r = some (.int (bI (decide (0 ≤ op) && decide (op ≤ 5))))) := by
  refine MC.of 99 (by decide) ?_
  intro X w av hl C hnm hp
  obtain rfl := hp
  refine ⟨[(0, _)], rfl, Nat.le_of_ble_eq_true rfl, rfl, ?_⟩
  refine j_iload_n (i := 0) (t := 1) C d_T_isOperator_0 rfl rfl rfl ?_
  refine j_if_lt (tgt := 13) (t := 4) C d_T_isOperator_1 (by decide) rfl (fun h1 => ?_) (fun h1 => ?_)
  · refine j_iconst (x := 0) (t := 14) C d_T_isOperator_13 rfl rfl ?_
    exact j_iret C d_T_isOperator_14 rfl (⟨rfl, by simp_all [-Int32.not_lt, -Int32.not_le, bI, i_lt]⟩) (by omega) (by omega)
  · refine j_iload_n (i := 0) (t := 5) C d_T_isOperator_4 rfl rfl rfl ?_
    refine j_iconst (x := 5) (t := 6) C d_T_isOperator_5 rfl rfl ?_
    refine j_icmp_gt (tgt := 13) (t := 9) C d_T_isOperator_6 (by decide) rfl (fun h6 => ?_) (fun h6 => ?_)
    · refine j_iconst (x := 0) (t := 14) C d_T_isOperator_13 rfl rfl ?_
      exact j_iret C d_T_isOperator_14 rfl (⟨rfl, by simp_all [-Int32.not_lt, -Int32.not_le, bI, i_lt]⟩) (by omega) (by omega)
    · refine j_iconst (x := 1) (t := 10) C d_T_isOperator_9 rfl rfl ?_
      refine j_goto (tgt := 14) C d_T_isOperator_10 (by decide) ?_
      exact j_iret C d_T_isOperator_14 rfl (⟨rfl, by simp_all [-Int32.not_lt, -Int32.not_le, bI, i_lt]⟩) (by omega) (by omega)

set_option maxHeartbeats 4000000 in
set_option maxRecDepth 100000 in
/-- isNumberOf -/
theorem c_T_isNumberOf (l : Launch) (ty : Int32) (x : Int64) : MC l y_T_isNumberOf b_T_isNumberOf 3 (some .boolean) 0 0 0
    (fun G w av => av = [.int ty, .long x])
    (fun G w av r w' => w' = w ∧ r = some (.int (bI (nO ty x)))) := by
  refine MC.of 1 (by decide) ?_
  intro X w av hl C hnm hp
  obtain rfl := hp
  refine ⟨[(0, _), (1, _)], rfl, Nat.le_of_ble_eq_true rfl, rfl, ?_⟩
  refine j_iload_n (i := 0) (t := 1) C d_T_isNumberOf_0 rfl rfl rfl ?_
  refine j_iconst (x := 1) (t := 2) C d_T_isNumberOf_1 rfl rfl ?_
  refine j_icmp_eq (tgt := 21) (t := 5) C d_T_isNumberOf_2 (by decide) rfl (fun h2 => ?_) (fun h2 => ?_)
  · refine j_iconst (x := 1) (t := 22) C d_T_isNumberOf_21 rfl rfl ?_
    refine j_goto (tgt := 26) C d_T_isNumberOf_22 (by decide) ?_
    exact j_iret C d_T_isNumberOf_26 rfl (⟨rfl, by simp_all [bI, nO, lg_cmp_eq]⟩) (by omega) (by omega)
  · refine j_iload_n (i := 0) (t := 6) C d_T_isNumberOf_5 rfl rfl rfl ?_
    refine j_if_ne (tgt := 25) (t := 9) C d_T_isNumberOf_6 (by decide) rfl (fun h6 => ?_) (fun h6 => ?_)
    · refine j_iconst (x := 0) (t := 26) C d_T_isNumberOf_25 rfl rfl ?_
      exact j_iret C d_T_isNumberOf_26 rfl (⟨rfl, by simp_all [bI, nO, lg_cmp_eq]⟩) (by omega) (by omega)
    · refine j_lload_n (i := 1) (t := 10) C d_T_isNumberOf_9 rfl rfl rfl ?_
      refine j_lconst (x := 0) (t := 11) C d_T_isNumberOf_10 rfl rfl ?_
      refine j_lcmp (t := 12) C d_T_isNumberOf_11 rfl ?_
      refine j_if_eq (tgt := 21) (t := 15) C d_T_isNumberOf_12 (by decide) rfl (fun h12 => ?_) (fun h12 => ?_)
      · refine j_iconst (x := 1) (t := 22) C d_T_isNumberOf_21 rfl rfl ?_
        refine j_goto (tgt := 26) C d_T_isNumberOf_22 (by decide) ?_
        exact j_iret C d_T_isNumberOf_26 rfl (⟨rfl, by simp_all [bI, nO, lg_cmp_eq]⟩) (by omega) (by omega)
      · refine j_lload_n (i := 1) (t := 16) C d_T_isNumberOf_15 rfl rfl rfl ?_
        refine j_lconst (x := 1) (t := 17) C d_T_isNumberOf_16 rfl rfl ?_
        refine j_lcmp (t := 18) C d_T_isNumberOf_17 rfl ?_
        refine j_if_ne (tgt := 25) (t := 21) C d_T_isNumberOf_18 (by decide) rfl (fun h18 => ?_) (fun h18 => ?_)
        · refine j_iconst (x := 0) (t := 26) C d_T_isNumberOf_25 rfl rfl ?_
          exact j_iret C d_T_isNumberOf_26 rfl (⟨rfl, by simp_all [bI, nO, lg_cmp_eq]⟩) (by omega) (by omega)
        · refine j_iconst (x := 1) (t := 22) C d_T_isNumberOf_21 rfl rfl ?_
          refine j_goto (tgt := 26) C d_T_isNumberOf_22 (by decide) ?_
          exact j_iret C d_T_isNumberOf_26 rfl (⟨rfl, by simp_all [bI, nO, lg_cmp_eq]⟩) (by omega) (by omega)
