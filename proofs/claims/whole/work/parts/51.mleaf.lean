set_option maxHeartbeats 4000000 in
set_option maxRecDepth 100000 in
/-- isValue -/
theorem c_M_isValue (l : Launch) (ty : Int32) (x : Int64) : MC l y_M_isValue b_M_isValue 3 (some .boolean) 0 0 0
    (fun G w av => av = [.int ty, .long x])
    (fun G w av r w' => w' = w ∧ r = some (.int (bI (nO ty x)))) := by
  refine MC.of 1 (by decide) ?_
  intro X w av hl C hnm hp
  subst hp
  refine ⟨[(0, _), (1, _)], rfl, Nat.le_of_ble_eq_true rfl, rfl, ?_⟩
  refine j_iload_n (i := 0) (t := 1) C d_M_isValue_0 rfl rfl rfl ?_
  refine j_if_ne (tgt := 24) (t := 4) C d_M_isValue_1 (by decide) rfl (fun h1 => ?_) (fun h1 => ?_)
  · refine j_iload_n (i := 0) (t := 25) C d_M_isValue_24 rfl rfl rfl ?_
    refine j_iconst (x := 1) (t := 26) C d_M_isValue_25 rfl rfl ?_
    refine j_icmp_ne (tgt := 33) (t := 29) C d_M_isValue_26 (by decide) rfl (fun h26 => ?_) (fun h26 => ?_)
    · refine j_iconst (x := 0) (t := 34) C d_M_isValue_33 rfl rfl ?_
      exact j_iret C d_M_isValue_34 rfl (⟨rfl, by simp_all [bI, nO, lg_cmp_eq]⟩) (by omega) (by omega)
    · refine j_iconst (x := 1) (t := 30) C d_M_isValue_29 rfl rfl ?_
      refine j_goto (tgt := 34) C d_M_isValue_30 (by decide) ?_
      exact j_iret C d_M_isValue_34 rfl (⟨rfl, by simp_all [bI, nO, lg_cmp_eq]⟩) (by omega) (by omega)
  · refine j_lload_n (i := 1) (t := 5) C d_M_isValue_4 rfl rfl rfl ?_
    refine j_lconst (x := 0) (t := 6) C d_M_isValue_5 rfl rfl ?_
    refine j_lcmp (t := 7) C d_M_isValue_6 rfl ?_
    refine j_if_eq (tgt := 16) (t := 10) C d_M_isValue_7 (by decide) rfl (fun h7 => ?_) (fun h7 => ?_)
    · refine j_iconst (x := 1) (t := 17) C d_M_isValue_16 rfl rfl ?_
      refine j_goto (tgt := 34) C d_M_isValue_17 (by decide) ?_
      exact j_iret C d_M_isValue_34 rfl (⟨rfl, by simp_all [bI, nO, lg_cmp_eq]⟩) (by omega) (by omega)
    · refine j_lload_n (i := 1) (t := 11) C d_M_isValue_10 rfl rfl rfl ?_
      refine j_lconst (x := 1) (t := 12) C d_M_isValue_11 rfl rfl ?_
      refine j_lcmp (t := 13) C d_M_isValue_12 rfl ?_
      refine j_if_ne (tgt := 20) (t := 16) C d_M_isValue_13 (by decide) rfl (fun h13 => ?_) (fun h13 => ?_)
      · refine j_iconst (x := 0) (t := 21) C d_M_isValue_20 rfl rfl ?_
        refine j_goto (tgt := 34) C d_M_isValue_21 (by decide) ?_
        exact j_iret C d_M_isValue_34 rfl (⟨rfl, by simp_all [bI, nO, lg_cmp_eq]⟩) (by omega) (by omega)
      · refine j_iconst (x := 1) (t := 17) C d_M_isValue_16 rfl rfl ?_
        refine j_goto (tgt := 34) C d_M_isValue_17 (by decide) ?_
        exact j_iret C d_M_isValue_34 rfl (⟨rfl, by simp_all [bI, nO, lg_cmp_eq]⟩) (by omega) (by omega)

set_option maxHeartbeats 4000000 in
set_option maxRecDepth 100000 in
/-- holds -/
theorem c_M_holds (l : Launch) (op x : Int32) : MC l y_M_holds b_M_holds 2 (some .boolean) 0 0 0
    (fun G w av => av = [.int op, .int x])
    (fun G w av r w' => w' = w ∧ r = some (.int (bI (hO op x)))) := by
  refine MC.of 99 (by decide) ?_
  intro X w av hl C hnm hp
  subst hp
  refine ⟨[(0, _), (1, _)], rfl, Nat.le_of_ble_eq_true rfl, rfl, ?_⟩
  refine j_iload_n (i := 0) (t := 1) C d_M_holds_0 rfl rfl rfl ?_
  refine j_if_ne (tgt := 16) (t := 4) C d_M_holds_1 (by decide) rfl (fun h1 => ?_) (fun h1 => ?_)
  · refine j_iload_n (i := 0) (t := 17) C d_M_holds_16 rfl rfl rfl ?_
    refine j_iconst (x := 1) (t := 18) C d_M_holds_17 rfl rfl ?_
    refine j_icmp_ne (tgt := 33) (t := 21) C d_M_holds_18 (by decide) rfl (fun h18 => ?_) (fun h18 => ?_)
    · refine j_iload_n (i := 0) (t := 34) C d_M_holds_33 rfl rfl rfl ?_
      refine j_iconst (x := 2) (t := 35) C d_M_holds_34 rfl rfl ?_
      refine j_icmp_ne (tgt := 50) (t := 38) C d_M_holds_35 (by decide) rfl (fun h35 => ?_) (fun h35 => ?_)
      · refine j_iload_n (i := 0) (t := 51) C d_M_holds_50 rfl rfl rfl ?_
        refine j_iconst (x := 3) (t := 52) C d_M_holds_51 rfl rfl ?_
        refine j_icmp_ne (tgt := 67) (t := 55) C d_M_holds_52 (by decide) rfl (fun h52 => ?_) (fun h52 => ?_)
        · refine j_iload_n (i := 0) (t := 68) C d_M_holds_67 rfl rfl rfl ?_
          refine j_iconst (x := 4) (t := 69) C d_M_holds_68 rfl rfl ?_
          refine j_icmp_ne (tgt := 84) (t := 72) C d_M_holds_69 (by decide) rfl (fun h69 => ?_) (fun h69 => ?_)
          · refine j_iload_n (i := 1) (t := 85) C d_M_holds_84 rfl rfl rfl ?_
            refine j_if_lt (tgt := 92) (t := 88) C d_M_holds_85 (by decide) rfl (fun h85 => ?_) (fun h85 => ?_)
            · refine j_iconst (x := 0) (t := 93) C d_M_holds_92 rfl rfl ?_
              exact j_iret C d_M_holds_93 rfl (⟨rfl, by simp_all [-Int32.not_lt, -Int32.not_le, bI, hO, i_lt]⟩) (by omega) (by omega)
            · refine j_iconst (x := 1) (t := 89) C d_M_holds_88 rfl rfl ?_
              refine j_goto (tgt := 93) C d_M_holds_89 (by decide) ?_
              exact j_iret C d_M_holds_93 rfl (⟨rfl, by simp_all [-Int32.not_lt, -Int32.not_le, bI, hO, i_lt]⟩) (by omega) (by omega)
          · refine j_iload_n (i := 1) (t := 73) C d_M_holds_72 rfl rfl rfl ?_
            refine j_if_le (tgt := 80) (t := 76) C d_M_holds_73 (by decide) rfl (fun h73 => ?_) (fun h73 => ?_)
            · refine j_iconst (x := 0) (t := 81) C d_M_holds_80 rfl rfl ?_
              refine j_goto (tgt := 93) C d_M_holds_81 (by decide) ?_
              exact j_iret C d_M_holds_93 rfl (⟨rfl, by simp_all [-Int32.not_lt, -Int32.not_le, bI, hO, i_lt]⟩) (by omega) (by omega)
            · refine j_iconst (x := 1) (t := 77) C d_M_holds_76 rfl rfl ?_
              refine j_goto (tgt := 93) C d_M_holds_77 (by decide) ?_
              exact j_iret C d_M_holds_93 rfl (⟨rfl, by simp_all [-Int32.not_lt, -Int32.not_le, bI, hO, i_lt]⟩) (by omega) (by omega)
        · refine j_iload_n (i := 1) (t := 56) C d_M_holds_55 rfl rfl rfl ?_
          refine j_if_gt (tgt := 63) (t := 59) C d_M_holds_56 (by decide) rfl (fun h56 => ?_) (fun h56 => ?_)
          · refine j_iconst (x := 0) (t := 64) C d_M_holds_63 rfl rfl ?_
            refine j_goto (tgt := 93) C d_M_holds_64 (by decide) ?_
            exact j_iret C d_M_holds_93 rfl (⟨rfl, by simp_all [-Int32.not_lt, -Int32.not_le, bI, hO, i_lt]⟩) (by omega) (by omega)
          · refine j_iconst (x := 1) (t := 60) C d_M_holds_59 rfl rfl ?_
            refine j_goto (tgt := 93) C d_M_holds_60 (by decide) ?_
            exact j_iret C d_M_holds_93 rfl (⟨rfl, by simp_all [-Int32.not_lt, -Int32.not_le, bI, hO, i_lt]⟩) (by omega) (by omega)
      · refine j_iload_n (i := 1) (t := 39) C d_M_holds_38 rfl rfl rfl ?_
        refine j_if_ge (tgt := 46) (t := 42) C d_M_holds_39 (by decide) rfl (fun h39 => ?_) (fun h39 => ?_)
        · refine j_iconst (x := 0) (t := 47) C d_M_holds_46 rfl rfl ?_
          refine j_goto (tgt := 93) C d_M_holds_47 (by decide) ?_
          exact j_iret C d_M_holds_93 rfl (⟨rfl, by simp_all [-Int32.not_lt, -Int32.not_le, bI, hO, i_lt]⟩) (by omega) (by omega)
        · refine j_iconst (x := 1) (t := 43) C d_M_holds_42 rfl rfl ?_
          refine j_goto (tgt := 93) C d_M_holds_43 (by decide) ?_
          exact j_iret C d_M_holds_93 rfl (⟨rfl, by simp_all [-Int32.not_lt, -Int32.not_le, bI, hO, i_lt]⟩) (by omega) (by omega)
    · refine j_iload_n (i := 1) (t := 22) C d_M_holds_21 rfl rfl rfl ?_
      refine j_if_eq (tgt := 29) (t := 25) C d_M_holds_22 (by decide) rfl (fun h22 => ?_) (fun h22 => ?_)
      · refine j_iconst (x := 0) (t := 30) C d_M_holds_29 rfl rfl ?_
        refine j_goto (tgt := 93) C d_M_holds_30 (by decide) ?_
        exact j_iret C d_M_holds_93 rfl (⟨rfl, by simp_all [-Int32.not_lt, -Int32.not_le, bI, hO, i_lt]⟩) (by omega) (by omega)
      · refine j_iconst (x := 1) (t := 26) C d_M_holds_25 rfl rfl ?_
        refine j_goto (tgt := 93) C d_M_holds_26 (by decide) ?_
        exact j_iret C d_M_holds_93 rfl (⟨rfl, by simp_all [-Int32.not_lt, -Int32.not_le, bI, hO, i_lt]⟩) (by omega) (by omega)
  · refine j_iload_n (i := 1) (t := 5) C d_M_holds_4 rfl rfl rfl ?_
    refine j_if_ne (tgt := 12) (t := 8) C d_M_holds_5 (by decide) rfl (fun h5 => ?_) (fun h5 => ?_)
    · refine j_iconst (x := 0) (t := 13) C d_M_holds_12 rfl rfl ?_
      refine j_goto (tgt := 93) C d_M_holds_13 (by decide) ?_
      exact j_iret C d_M_holds_93 rfl (⟨rfl, by simp_all [-Int32.not_lt, -Int32.not_le, bI, hO, i_lt]⟩) (by omega) (by omega)
    · refine j_iconst (x := 1) (t := 9) C d_M_holds_8 rfl rfl ?_
      refine j_goto (tgt := 93) C d_M_holds_9 (by decide) ?_
      exact j_iret C d_M_holds_93 rfl (⟨rfl, by simp_all [-Int32.not_lt, -Int32.not_le, bI, hO, i_lt]⟩) (by omega) (by omega)

set_option maxHeartbeats 4000000 in
set_option maxRecDepth 100000 in
/-- contrary -/
theorem c_M_contrary (l : Launch) (op : Int32) : MC l y_M_contrary b_M_contrary 1 (some .int) 0 0 0
    (fun G w av => av = [.int op])
    (fun G w av r w' => w' = w ∧ r = some (.int (cO op))) := by
  refine MC.of 99 (by decide) ?_
  intro X w av hl C hnm hp
  subst hp
  have e : (2 ≤ op) ↔ ¬ op ≤ 1 := by
    rw [Int32.le_iff_toInt_le, Int32.le_iff_toInt_le]
    have h1 : (2 : Int32).toInt = 2 := by decide
    have h2 : (1 : Int32).toInt = 1 := by decide
    omega
  refine ⟨[(0, _)], rfl, Nat.le_of_ble_eq_true rfl, rfl, ?_⟩
  refine j_iload_n (i := 0) (t := 1) C d_M_contrary_0 rfl rfl rfl ?_
  refine j_iconst (x := 2) (t := 2) C d_M_contrary_1 rfl rfl ?_
  refine j_icmp_ge (tgt := 11) (t := 5) C d_M_contrary_2 (by decide) rfl (fun h2 => ?_) (fun h2 => ?_)
  · refine j_bipush (x := 7) (t := 13) C d_M_contrary_11 rfl rfl ?_
    refine j_iload_n (i := 0) (t := 14) C d_M_contrary_13 rfl rfl rfl ?_
    refine j_isub (t := 15) C d_M_contrary_14 rfl ?_
    exact j_iret C d_M_contrary_15 rfl (⟨rfl, by unfold cO; first | (rw [if_neg (e.mp h2)]) | (rw [if_pos (by simpa using fun z => h2 (e.mpr z))])⟩) (by omega) (by omega)
  · refine j_iconst (x := 1) (t := 6) C d_M_contrary_5 rfl rfl ?_
    refine j_iload_n (i := 0) (t := 7) C d_M_contrary_6 rfl rfl rfl ?_
    refine j_isub (t := 8) C d_M_contrary_7 rfl ?_
    refine j_goto (tgt := 15) C d_M_contrary_8 (by decide) ?_
    exact j_iret C d_M_contrary_15 rfl (⟨rfl, by unfold cO; first | (rw [if_neg (e.mp h2)]) | (rw [if_pos (by simpa using fun z => h2 (e.mpr z))])⟩) (by omega) (by omega)

set_option maxHeartbeats 4000000 in
set_option maxRecDepth 100000 in
/-- turned -/
theorem c_M_turned (l : Launch) (a : Nat) : MC l y_M_turned b_M_turned 1 (some .int) 0 0 0
    (fun G w av => av = [.int (nI a)] ∧ a < 8)
    (fun G w av r w' => w' = w ∧ r = some (.int (nS (nI a)))) := by
  refine MC.of 99 (by decide) ?_
  intro X w av hl C hnm hp
  obtain ⟨rfl, ha⟩ := hp
  refine ⟨[(0, _)], rfl, Nat.le_of_ble_eq_true rfl, rfl, ?_⟩
  refine j_iload_n (i := 0) (t := 1) C d_M_turned_0 rfl rfl rfl ?_
  refine j_iconst (x := 4) (t := 2) C d_M_turned_1 rfl rfl ?_
  refine j_iand (t := 3) C d_M_turned_2 rfl ?_
  refine j_iload_n (i := 0) (t := 4) C d_M_turned_3 rfl rfl rfl ?_
  refine j_iconst (x := 1) (t := 5) C d_M_turned_4 rfl rfl ?_
  refine j_iand (t := 6) C d_M_turned_5 rfl ?_
  refine j_if_le (tgt := 13) (t := 9) C d_M_turned_6 (by decide) rfl (fun h6 => ?_) (fun h6 => ?_)
  · refine j_iconst (x := 0) (t := 14) C d_M_turned_13 rfl rfl ?_
    refine j_iadd (t := 15) C d_M_turned_14 rfl ?_
    refine j_iload_n (i := 0) (t := 16) C d_M_turned_15 rfl rfl rfl ?_
    refine j_iconst (x := 2) (t := 17) C d_M_turned_16 rfl rfl ?_
    refine j_iand (t := 18) C d_M_turned_17 rfl ?_
    refine j_if_le (tgt := 25) (t := 21) C d_M_turned_18 (by decide) rfl (fun h18 => ?_) (fun h18 => ?_)
    · refine j_iconst (x := 0) (t := 26) C d_M_turned_25 rfl rfl ?_
      refine j_iadd (t := 27) C d_M_turned_26 rfl ?_
      exact j_iret C d_M_turned_27 rfl (⟨rfl, by rw [← nS_fl a ha]; simp only [← Int32.not_le] at *; simp_all⟩) (by omega) (by omega)
    · refine j_iconst (x := 1) (t := 22) C d_M_turned_21 rfl rfl ?_
      refine j_goto (tgt := 26) C d_M_turned_22 (by decide) ?_
      refine j_iadd (t := 27) C d_M_turned_26 rfl ?_
      exact j_iret C d_M_turned_27 rfl (⟨rfl, by rw [← nS_fl a ha]; simp only [← Int32.not_le] at *; simp_all⟩) (by omega) (by omega)
  · refine j_iconst (x := 2) (t := 10) C d_M_turned_9 rfl rfl ?_
    refine j_goto (tgt := 14) C d_M_turned_10 (by decide) ?_
    refine j_iadd (t := 15) C d_M_turned_14 rfl ?_
    refine j_iload_n (i := 0) (t := 16) C d_M_turned_15 rfl rfl rfl ?_
    refine j_iconst (x := 2) (t := 17) C d_M_turned_16 rfl rfl ?_
    refine j_iand (t := 18) C d_M_turned_17 rfl ?_
    refine j_if_le (tgt := 25) (t := 21) C d_M_turned_18 (by decide) rfl (fun h18 => ?_) (fun h18 => ?_)
    · refine j_iconst (x := 0) (t := 26) C d_M_turned_25 rfl rfl ?_
      refine j_iadd (t := 27) C d_M_turned_26 rfl ?_
      exact j_iret C d_M_turned_27 rfl (⟨rfl, by rw [← nS_fl a ha]; simp only [← Int32.not_le] at *; simp_all⟩) (by omega) (by omega)
    · refine j_iconst (x := 1) (t := 22) C d_M_turned_21 rfl rfl ?_
      refine j_goto (tgt := 26) C d_M_turned_22 (by decide) ?_
      refine j_iadd (t := 27) C d_M_turned_26 rfl ?_
      exact j_iret C d_M_turned_27 rfl (⟨rfl, by rw [← nS_fl a ha]; simp only [← Int32.not_le] at *; simp_all⟩) (by omega) (by omega)

set_option maxHeartbeats 4000000 in
set_option maxRecDepth 100000 in
/-- joined -/
theorem c_M_joined (l : Launch) (a b : Nat) : MC l y_M_joined b_M_joined 3 (some .int) 0 0 0
    (fun G w av => av = [.int (nI a), .int (nI b)] ∧ a < 8 ∧ b < 8)
    (fun G w av r w' => w' = w ∧ r = some (.int (aS (nI a) (nI b)))) := by
  refine MC.of 99 (by decide) ?_
  intro X w av hl C hnm hp
  obtain ⟨rfl, ha, hb⟩ := hp
  refine ⟨[(0, _), (1, _)], rfl, Nat.le_of_ble_eq_true rfl, rfl, ?_⟩
  have tail : ∀ u : Bool, u = ((decide (0 < nI a &&& 4) && decide (0 < nI b &&& 6)) || (decide (0 < nI b &&& 4) && decide (0 < nI a &&& 6))) → J X (3, 99) (jQ X (fun r w' => w' = w ∧ r = some (.int (aS (nI a) (nI b)))) 0 0) w 0 0 32 [(0, .int (nI a)), (1, .int (nI b)), (2, .int (bI u))] [] := by
    intro u hu
    refine j_iload_n (i := 0) (t := 33) C d_M_joined_32 rfl rfl rfl ?_
    refine j_iload_n (i := 1) (t := 34) C d_M_joined_33 rfl rfl rfl ?_
    refine j_iand (t := 35) C d_M_joined_34 rfl ?_
    refine j_iconst (x := 2) (t := 36) C d_M_joined_35 rfl rfl ?_
    refine j_iand (t := 37) C d_M_joined_36 rfl ?_
    refine j_iload_n (i := 0) (t := 38) C d_M_joined_37 rfl rfl rfl ?_
    refine j_iload_n (i := 1) (t := 39) C d_M_joined_38 rfl rfl rfl ?_
    refine j_ior (t := 40) C d_M_joined_39 rfl ?_
    refine j_iconst (x := 1) (t := 41) C d_M_joined_40 rfl rfl ?_
    refine j_iand (t := 42) C d_M_joined_41 rfl ?_
    refine j_iadd (t := 43) C d_M_joined_42 rfl ?_
    refine j_iload_n (i := 2) (t := 44) C d_M_joined_43 rfl rfl rfl ?_
    refine j_if_eq (tgt := 51) (t := 47) C d_M_joined_44 (by decide) rfl (fun h44 => ?_) (fun h44 => ?_)
    · refine j_iconst (x := 0) (t := 52) C d_M_joined_51 rfl rfl ?_
      refine j_iadd (t := 53) C d_M_joined_52 rfl ?_
      exact j_iret C d_M_joined_53 rfl (⟨rfl, by rw [← aS_fl a ha b hb u hu]; cases u <;> simp_all [bI]⟩) (by omega) (by omega)
    · refine j_iconst (x := 4) (t := 48) C d_M_joined_47 rfl rfl ?_
      refine j_goto (tgt := 52) C d_M_joined_48 (by decide) ?_
      refine j_iadd (t := 53) C d_M_joined_52 rfl ?_
      exact j_iret C d_M_joined_53 rfl (⟨rfl, by rw [← aS_fl a ha b hb u hu]; cases u <;> simp_all [bI]⟩) (by omega) (by omega)
  refine j_iload_n (i := 0) (t := 1) C d_M_joined_0 rfl rfl rfl ?_
  refine j_iconst (x := 4) (t := 2) C d_M_joined_1 rfl rfl ?_
  refine j_iand (t := 3) C d_M_joined_2 rfl ?_
  refine j_if_le (tgt := 13) (t := 6) C d_M_joined_3 (by decide) rfl (fun h3 => ?_) (fun h3 => ?_)
  · refine j_iload_n (i := 1) (t := 14) C d_M_joined_13 rfl rfl rfl ?_
    refine j_iconst (x := 4) (t := 15) C d_M_joined_14 rfl rfl ?_
    refine j_iand (t := 16) C d_M_joined_15 rfl ?_
    refine j_if_le (tgt := 30) (t := 19) C d_M_joined_16 (by decide) rfl (fun h16 => ?_) (fun h16 => ?_)
    · refine j_iconst (x := 0) (t := 31) C d_M_joined_30 rfl rfl ?_
      refine j_istore_n (i := 2) (t := 32) (lv' := [(0, _), (1, _), (2, _)]) C d_M_joined_31 rfl (by decide) (by decide) rfl rfl ?_
      first | exact tail true (by clear tail; simp only [← Int32.not_le] at *; simp_all) | exact tail false (by clear tail; simp only [← Int32.not_le] at *; simp_all)
    · refine j_iload_n (i := 0) (t := 20) C d_M_joined_19 rfl rfl rfl ?_
      refine j_bipush (x := 6) (t := 22) C d_M_joined_20 rfl rfl ?_
      refine j_iand (t := 23) C d_M_joined_22 rfl ?_
      refine j_if_le (tgt := 30) (t := 26) C d_M_joined_23 (by decide) rfl (fun h23 => ?_) (fun h23 => ?_)
      · refine j_iconst (x := 0) (t := 31) C d_M_joined_30 rfl rfl ?_
        refine j_istore_n (i := 2) (t := 32) (lv' := [(0, _), (1, _), (2, _)]) C d_M_joined_31 rfl (by decide) (by decide) rfl rfl ?_
        first | exact tail true (by clear tail; simp only [← Int32.not_le] at *; simp_all) | exact tail false (by clear tail; simp only [← Int32.not_le] at *; simp_all)
      · refine j_iconst (x := 1) (t := 27) C d_M_joined_26 rfl rfl ?_
        refine j_goto (tgt := 31) C d_M_joined_27 (by decide) ?_
        refine j_istore_n (i := 2) (t := 32) (lv' := [(0, _), (1, _), (2, _)]) C d_M_joined_31 rfl (by decide) (by decide) rfl rfl ?_
        first | exact tail true (by clear tail; simp only [← Int32.not_le] at *; simp_all) | exact tail false (by clear tail; simp only [← Int32.not_le] at *; simp_all)
  · refine j_iload_n (i := 1) (t := 7) C d_M_joined_6 rfl rfl rfl ?_
    refine j_bipush (x := 6) (t := 9) C d_M_joined_7 rfl rfl ?_
    refine j_iand (t := 10) C d_M_joined_9 rfl ?_
    refine j_if_gt (tgt := 26) (t := 13) C d_M_joined_10 (by decide) rfl (fun h10 => ?_) (fun h10 => ?_)
    · refine j_iconst (x := 1) (t := 27) C d_M_joined_26 rfl rfl ?_
      refine j_goto (tgt := 31) C d_M_joined_27 (by decide) ?_
      refine j_istore_n (i := 2) (t := 32) (lv' := [(0, _), (1, _), (2, _)]) C d_M_joined_31 rfl (by decide) (by decide) rfl rfl ?_
      first | exact tail true (by clear tail; simp only [← Int32.not_le] at *; simp_all) | exact tail false (by clear tail; simp only [← Int32.not_le] at *; simp_all)
    · refine j_iload_n (i := 1) (t := 14) C d_M_joined_13 rfl rfl rfl ?_
      refine j_iconst (x := 4) (t := 15) C d_M_joined_14 rfl rfl ?_
      refine j_iand (t := 16) C d_M_joined_15 rfl ?_
      refine j_if_le (tgt := 30) (t := 19) C d_M_joined_16 (by decide) rfl (fun h16 => ?_) (fun h16 => ?_)
      · refine j_iconst (x := 0) (t := 31) C d_M_joined_30 rfl rfl ?_
        refine j_istore_n (i := 2) (t := 32) (lv' := [(0, _), (1, _), (2, _)]) C d_M_joined_31 rfl (by decide) (by decide) rfl rfl ?_
        first | exact tail true (by clear tail; simp only [← Int32.not_le] at *; simp_all) | exact tail false (by clear tail; simp only [← Int32.not_le] at *; simp_all)
      · refine j_iload_n (i := 0) (t := 20) C d_M_joined_19 rfl rfl rfl ?_
        refine j_bipush (x := 6) (t := 22) C d_M_joined_20 rfl rfl ?_
        refine j_iand (t := 23) C d_M_joined_22 rfl ?_
        refine j_if_le (tgt := 30) (t := 26) C d_M_joined_23 (by decide) rfl (fun h23 => ?_) (fun h23 => ?_)
        · refine j_iconst (x := 0) (t := 31) C d_M_joined_30 rfl rfl ?_
          refine j_istore_n (i := 2) (t := 32) (lv' := [(0, _), (1, _), (2, _)]) C d_M_joined_31 rfl (by decide) (by decide) rfl rfl ?_
          first | exact tail true (by clear tail; simp only [← Int32.not_le] at *; simp_all) | exact tail false (by clear tail; simp only [← Int32.not_le] at *; simp_all)
        · refine j_iconst (x := 1) (t := 27) C d_M_joined_26 rfl rfl ?_
          refine j_goto (tgt := 31) C d_M_joined_27 (by decide) ?_
          refine j_istore_n (i := 2) (t := 32) (lv' := [(0, _), (1, _), (2, _)]) C d_M_joined_31 rfl (by decide) (by decide) rfl rfl ?_
          first | exact tail true (by clear tail; simp only [← Int32.not_le] at *; simp_all) | exact tail false (by clear tail; simp only [← Int32.not_le] at *; simp_all)

set_option maxHeartbeats 4000000 in
set_option maxRecDepth 100000 in
/-- isColumn -/
theorem c_M_isColumn (l : Launch) (o : Nat) (q : Nat → Nat) (m : jM) (s : jS) (x : Int32) : MC l y_M_isColumn b_M_isColumn 2 (some .boolean) 0 0 0
    (fun G w av => av = [.ref o, .int x] ∧ MH G w o q m ∧ mg_cc m = nI (g_cc s))
    (fun G w av r w' => w' = w ∧ r = some (.int (bI (cix s x).isSome))) := by
  refine MC.of 99 (by decide) ?_
  intro X w av hl C hnm hp
  obtain ⟨rfl, hM, hcc⟩ := hp
  refine ⟨[(0, _), (1, _)], rfl, Nat.le_of_ble_eq_true rfl, rfl, ?_⟩
  refine j_iload_n (i := 1) (t := 1) C d_M_isColumn_0 rfl rfl rfl ?_
  refine j_if_lt (tgt := 16) (t := 4) C d_M_isColumn_1 (by decide) rfl (fun h1 => ?_) (fun h1 => ?_)
  · refine j_iconst (x := 0) (t := 17) C d_M_isColumn_16 rfl rfl ?_
    exact j_iret C d_M_isColumn_17 (by first | rfl | exact nar_b) (⟨rfl, by unfold cix; rw [← hcc]; first | (rw [if_pos (Or.inl h1)]; rfl) | (rw [if_pos (Or.inr (Int32.not_lt.mpr h9))]; rfl) | (rw [if_neg (fun z => z.elim h1 (fun z2 => z2 (Int32.not_le.mp h9)))]; rfl)⟩) (by omega) (by omega)
  · refine j_iload_n (i := 1) (t := 5) C d_M_isColumn_4 rfl rfl rfl ?_
    refine j_aload_n (i := 0) (t := 6) C d_M_isColumn_5 rfl rfl (by first | exact jrv_r | exact jrv_n | exact jrv_f) rfl ?_
    refine j_get (t := 9) C fl_M_86 d_M_isColumn_6 hM.1 rfl rfl ?_
    refine j_icmp_ge (tgt := 16) (t := 12) C d_M_isColumn_9 (by decide) rfl (fun h9 => ?_) (fun h9 => ?_)
    · refine j_iconst (x := 0) (t := 17) C d_M_isColumn_16 rfl rfl ?_
      exact j_iret C d_M_isColumn_17 (by first | rfl | exact nar_b) (⟨rfl, by unfold cix; rw [← hcc]; first | (rw [if_pos (Or.inl h1)]; rfl) | (rw [if_pos (Or.inr (Int32.not_lt.mpr h9))]; rfl) | (rw [if_neg (fun z => z.elim h1 (fun z2 => z2 (Int32.not_le.mp h9)))]; rfl)⟩) (by omega) (by omega)
    · refine j_iconst (x := 1) (t := 13) C d_M_isColumn_12 rfl rfl ?_
      refine j_goto (tgt := 17) C d_M_isColumn_13 (by decide) ?_
      exact j_iret C d_M_isColumn_17 (by first | rfl | exact nar_b) (⟨rfl, by unfold cix; rw [← hcc]; first | (rw [if_pos (Or.inl h1)]; rfl) | (rw [if_pos (Or.inr (Int32.not_lt.mpr h9))]; rfl) | (rw [if_neg (fun z => z.elim h1 (fun z2 => z2 (Int32.not_le.mp h9)))]; rfl)⟩) (by omega) (by omega)

set_option maxHeartbeats 4000000 in
set_option maxRecDepth 100000 in
/-- compare -/
theorem c_M_compare (l : Launch) (o : Nat) (q : Nat → Nat) (m : jM) (t : Int32) (i j : Nat) (x y : jv) (p p' : Nat) : MC l y_M_compare b_M_compare 5 (some .int) 0 0 0
    (fun G w av => av = [.ref o, .int t, .int (nI i), .int (nI j)] ∧ MH G w o q m ∧ (valM m t i x p ∧ vok t x ∧ i < 17696 ∧ p + x.2.2.length ≤ 280576) ∧ (valM m t j y p' ∧ vok t y ∧ j < 17696 ∧ p' + y.2.2.length ≤ 280576))
    (fun G w av r w' => w' = w ∧ ∃ z, r = some (.int z) ∧ sgb z (vc x y)) := by
  refine MC.of 99 (by decide) ?_
  intro X w av hl C hnm hp
  obtain ⟨rfl, hM, ⟨hvx, hx, hi, hpx⟩, ⟨hvy, hy, hj, hpy⟩⟩ := hp
  have lx := hx.2.2.2.1
  have ly := hy.2.2.2.1
  refine ⟨[(0, _), (1, _), (2, _), (3, _)], rfl, Nat.le_of_ble_eq_true rfl, rfl, ?_⟩
  have loop : t = 2 → ∀ (qq k : Nat), x.2.2.length + 1 ≤ k + qq → k ≤ x.2.2.length → k ≤ y.2.2.length → tc (x.2.2.drop k) (y.2.2.drop k) = tc x.2.2 y.2.2 → J X (5, 99) (jQ X (fun r w' => w' = w ∧ ∃ z, r = some (.int z) ∧ sgb z (vc x y)) 0 0) w 0 0 50 [(0, .ref o), (1, .int t), (2, .int (nI i)), (3, .int (nI j)), (4, .int (nI k))] [] := by
    intro h2 qq
    subst h2
    induction qq with
    | zero => intro k h1 h2; omega
    | succ qq ih =>
      intro k hk1 hk2 hk3 htc
      refine j_iload (t := 52) C d_M_compare_50 rfl rfl ?_
      refine j_aload_n (i := 0) (t := 53) C d_M_compare_52 rfl rfl (by first | exact jrv_r | exact jrv_n | exact jrv_f) rfl ?_
      refine j_get (t := 56) C fl_M_20 d_M_compare_53 hM.1 rfl rfl ?_
      refine j_iload_n (i := 2) (t := 57) C d_M_compare_56 rfl rfl rfl ?_
      refine j_ld_size (i := i) (t := 58) C d_M_compare_57 hM (by first | rfl | simp only [nI_add, nI_mul, nI_1]) (by omega) ((hvx.2 rfl).1) rfl ?_
      refine j_icmp_ge (tgt := 109) (t := 61) C d_M_compare_58 (by decide) rfl (fun h58 => ?_) (fun h58 => ?_)
      · try rw [nI_leI (by omega) (by omega)] at h58
        try rw [nI_leI (by omega) (by omega)] at h69
        refine j_iload (t := 111) C d_M_compare_109 rfl rfl ?_
        refine j_aload_n (i := 0) (t := 112) C d_M_compare_111 rfl rfl (by first | exact jrv_r | exact jrv_n | exact jrv_f) rfl ?_
        refine j_get (t := 115) C fl_M_20 d_M_compare_112 hM.1 rfl rfl ?_
        refine j_iload_n (i := 2) (t := 116) C d_M_compare_115 rfl rfl rfl ?_
        refine j_ld_size (i := i) (t := 117) C d_M_compare_116 hM (by first | rfl | simp only [nI_add, nI_mul, nI_1]) (by omega) ((hvx.2 rfl).1) rfl ?_
        refine j_icmp_ge (tgt := 161) (t := 120) C d_M_compare_117 (by decide) rfl (fun h117 => ?_) (fun h117 => ?_)
        · try rw [nI_leI (by omega) (by omega)] at h117
          try rw [nI_leI (by omega) (by omega)] at h128
          refine j_aload_n (i := 0) (t := 162) C d_M_compare_161 rfl rfl (by first | exact jrv_r | exact jrv_n | exact jrv_f) rfl ?_
          refine j_get (t := 165) C fl_M_20 d_M_compare_162 hM.1 rfl rfl ?_
          refine j_iload_n (i := 2) (t := 166) C d_M_compare_165 rfl rfl rfl ?_
          refine j_ld_size (i := i) (t := 167) C d_M_compare_166 hM (by first | rfl | simp only [nI_add, nI_mul, nI_1]) (by omega) ((hvx.2 rfl).1) rfl ?_
          refine j_aload_n (i := 0) (t := 168) C d_M_compare_167 rfl rfl (by first | exact jrv_r | exact jrv_n | exact jrv_f) rfl ?_
          refine j_get (t := 171) C fl_M_20 d_M_compare_168 hM.1 rfl rfl ?_
          refine j_iload_n (i := 3) (t := 172) C d_M_compare_171 rfl rfl rfl ?_
          refine j_ld_size (i := j) (t := 173) C d_M_compare_172 hM (by first | rfl | simp only [nI_add, nI_mul, nI_1]) (by omega) ((hvy.2 rfl).1) rfl ?_
          refine j_isub (t := 174) C d_M_compare_173 rfl ?_
          exact j_iret C d_M_compare_174 (by first | rfl | exact nar_b) (⟨rfl, _, rfl, cmp_end hx hy (by omega) (by omega) (by omega) htc⟩) (by omega) (by omega)
        · rw [nI_leI (by omega) (by omega)] at h117
          refine j_iload (t := 122) C d_M_compare_120 rfl rfl ?_
          refine j_aload_n (i := 0) (t := 123) C d_M_compare_122 rfl rfl (by first | exact jrv_r | exact jrv_n | exact jrv_f) rfl ?_
          refine j_get (t := 126) C fl_M_20 d_M_compare_123 hM.1 rfl rfl ?_
          refine j_iload_n (i := 3) (t := 127) C d_M_compare_126 rfl rfl rfl ?_
          refine j_ld_size (i := j) (t := 128) C d_M_compare_127 hM (by first | rfl | simp only [nI_add, nI_mul, nI_1]) (by omega) ((hvy.2 rfl).1) rfl ?_
          refine j_icmp_ge (tgt := 161) (t := 131) C d_M_compare_128 (by decide) rfl (fun h128 => ?_) (fun h128 => ?_)
          · try rw [nI_leI (by omega) (by omega)] at h117
            try rw [nI_leI (by omega) (by omega)] at h128
            refine j_aload_n (i := 0) (t := 162) C d_M_compare_161 rfl rfl (by first | exact jrv_r | exact jrv_n | exact jrv_f) rfl ?_
            refine j_get (t := 165) C fl_M_20 d_M_compare_162 hM.1 rfl rfl ?_
            refine j_iload_n (i := 2) (t := 166) C d_M_compare_165 rfl rfl rfl ?_
            refine j_ld_size (i := i) (t := 167) C d_M_compare_166 hM (by first | rfl | simp only [nI_add, nI_mul, nI_1]) (by omega) ((hvx.2 rfl).1) rfl ?_
            refine j_aload_n (i := 0) (t := 168) C d_M_compare_167 rfl rfl (by first | exact jrv_r | exact jrv_n | exact jrv_f) rfl ?_
            refine j_get (t := 171) C fl_M_20 d_M_compare_168 hM.1 rfl rfl ?_
            refine j_iload_n (i := 3) (t := 172) C d_M_compare_171 rfl rfl rfl ?_
            refine j_ld_size (i := j) (t := 173) C d_M_compare_172 hM (by first | rfl | simp only [nI_add, nI_mul, nI_1]) (by omega) ((hvy.2 rfl).1) rfl ?_
            refine j_isub (t := 174) C d_M_compare_173 rfl ?_
            exact j_iret C d_M_compare_174 (by first | rfl | exact nar_b) (⟨rfl, _, rfl, cmp_end hx hy (by omega) (by omega) (by omega) htc⟩) (by omega) (by omega)
          · rw [nI_leI (by omega) (by omega)] at h128
            refine j_aload_n (i := 0) (t := 132) C d_M_compare_131 rfl rfl (by first | exact jrv_r | exact jrv_n | exact jrv_f) rfl ?_
            refine j_get (t := 135) C fl_M_24 d_M_compare_132 hM.1 rfl rfl ?_
            refine j_aload_n (i := 0) (t := 136) C d_M_compare_135 rfl rfl (by first | exact jrv_r | exact jrv_n | exact jrv_f) rfl ?_
            refine j_get (t := 139) C fl_M_17 d_M_compare_136 hM.1 rfl rfl ?_
            refine j_iload_n (i := 2) (t := 140) C d_M_compare_139 rfl rfl rfl ?_
            refine j_ld_from (i := i) (t := 141) C d_M_compare_140 hM (by first | rfl | simp only [nI_add, nI_mul, nI_1]) (by omega) ((hvx.2 rfl).2.1) rfl ?_
            refine j_iload (t := 143) C d_M_compare_141 rfl rfl ?_
            refine j_iadd (t := 144) C d_M_compare_143 rfl ?_
            refine j_ld_bytes (i := p + k) (t := 145) C d_M_compare_144 hM (by first | rfl | simp only [nI_add, nI_mul, nI_1]) (by omega) ((hvx.2 rfl).2.2 k (by omega)) rfl ?_
            refine j_aload_n (i := 0) (t := 146) C d_M_compare_145 rfl rfl (by first | exact jrv_r | exact jrv_n | exact jrv_f) rfl ?_
            refine j_get (t := 149) C fl_M_24 d_M_compare_146 hM.1 rfl rfl ?_
            refine j_aload_n (i := 0) (t := 150) C d_M_compare_149 rfl rfl (by first | exact jrv_r | exact jrv_n | exact jrv_f) rfl ?_
            refine j_get (t := 153) C fl_M_17 d_M_compare_150 hM.1 rfl rfl ?_
            refine j_iload_n (i := 3) (t := 154) C d_M_compare_153 rfl rfl rfl ?_
            refine j_ld_from (i := j) (t := 155) C d_M_compare_154 hM (by first | rfl | simp only [nI_add, nI_mul, nI_1]) (by omega) ((hvy.2 rfl).2.1) rfl ?_
            refine j_iload (t := 157) C d_M_compare_155 rfl rfl ?_
            refine j_iadd (t := 158) C d_M_compare_157 rfl ?_
            refine j_ld_bytes (i := p' + k) (t := 159) C d_M_compare_158 hM (by first | rfl | simp only [nI_add, nI_mul, nI_1]) (by omega) ((hvy.2 rfl).2.2 k (by omega)) rfl ?_
            refine j_isub (t := 160) C d_M_compare_159 rfl ?_
            exact j_iret C d_M_compare_160 (by first | rfl | exact nar_b) (by first | exact ⟨rfl, _, rfl, cmp_byte hx hy (by omega) (by omega) htc h100⟩ | (exfalso; omega)) (by omega) (by omega)
      · rw [nI_leI (by omega) (by omega)] at h58
        refine j_iload (t := 63) C d_M_compare_61 rfl rfl ?_
        refine j_aload_n (i := 0) (t := 64) C d_M_compare_63 rfl rfl (by first | exact jrv_r | exact jrv_n | exact jrv_f) rfl ?_
        refine j_get (t := 67) C fl_M_20 d_M_compare_64 hM.1 rfl rfl ?_
        refine j_iload_n (i := 3) (t := 68) C d_M_compare_67 rfl rfl rfl ?_
        refine j_ld_size (i := j) (t := 69) C d_M_compare_68 hM (by first | rfl | simp only [nI_add, nI_mul, nI_1]) (by omega) ((hvy.2 rfl).1) rfl ?_
        refine j_icmp_ge (tgt := 109) (t := 72) C d_M_compare_69 (by decide) rfl (fun h69 => ?_) (fun h69 => ?_)
        · try rw [nI_leI (by omega) (by omega)] at h58
          try rw [nI_leI (by omega) (by omega)] at h69
          refine j_iload (t := 111) C d_M_compare_109 rfl rfl ?_
          refine j_aload_n (i := 0) (t := 112) C d_M_compare_111 rfl rfl (by first | exact jrv_r | exact jrv_n | exact jrv_f) rfl ?_
          refine j_get (t := 115) C fl_M_20 d_M_compare_112 hM.1 rfl rfl ?_
          refine j_iload_n (i := 2) (t := 116) C d_M_compare_115 rfl rfl rfl ?_
          refine j_ld_size (i := i) (t := 117) C d_M_compare_116 hM (by first | rfl | simp only [nI_add, nI_mul, nI_1]) (by omega) ((hvx.2 rfl).1) rfl ?_
          refine j_icmp_ge (tgt := 161) (t := 120) C d_M_compare_117 (by decide) rfl (fun h117 => ?_) (fun h117 => ?_)
          · try rw [nI_leI (by omega) (by omega)] at h117
            try rw [nI_leI (by omega) (by omega)] at h128
            refine j_aload_n (i := 0) (t := 162) C d_M_compare_161 rfl rfl (by first | exact jrv_r | exact jrv_n | exact jrv_f) rfl ?_
            refine j_get (t := 165) C fl_M_20 d_M_compare_162 hM.1 rfl rfl ?_
            refine j_iload_n (i := 2) (t := 166) C d_M_compare_165 rfl rfl rfl ?_
            refine j_ld_size (i := i) (t := 167) C d_M_compare_166 hM (by first | rfl | simp only [nI_add, nI_mul, nI_1]) (by omega) ((hvx.2 rfl).1) rfl ?_
            refine j_aload_n (i := 0) (t := 168) C d_M_compare_167 rfl rfl (by first | exact jrv_r | exact jrv_n | exact jrv_f) rfl ?_
            refine j_get (t := 171) C fl_M_20 d_M_compare_168 hM.1 rfl rfl ?_
            refine j_iload_n (i := 3) (t := 172) C d_M_compare_171 rfl rfl rfl ?_
            refine j_ld_size (i := j) (t := 173) C d_M_compare_172 hM (by first | rfl | simp only [nI_add, nI_mul, nI_1]) (by omega) ((hvy.2 rfl).1) rfl ?_
            refine j_isub (t := 174) C d_M_compare_173 rfl ?_
            exact j_iret C d_M_compare_174 (by first | rfl | exact nar_b) (⟨rfl, _, rfl, cmp_end hx hy (by omega) (by omega) (by omega) htc⟩) (by omega) (by omega)
          · rw [nI_leI (by omega) (by omega)] at h117
            refine j_iload (t := 122) C d_M_compare_120 rfl rfl ?_
            refine j_aload_n (i := 0) (t := 123) C d_M_compare_122 rfl rfl (by first | exact jrv_r | exact jrv_n | exact jrv_f) rfl ?_
            refine j_get (t := 126) C fl_M_20 d_M_compare_123 hM.1 rfl rfl ?_
            refine j_iload_n (i := 3) (t := 127) C d_M_compare_126 rfl rfl rfl ?_
            refine j_ld_size (i := j) (t := 128) C d_M_compare_127 hM (by first | rfl | simp only [nI_add, nI_mul, nI_1]) (by omega) ((hvy.2 rfl).1) rfl ?_
            refine j_icmp_ge (tgt := 161) (t := 131) C d_M_compare_128 (by decide) rfl (fun h128 => ?_) (fun h128 => ?_)
            · try rw [nI_leI (by omega) (by omega)] at h117
              try rw [nI_leI (by omega) (by omega)] at h128
              refine j_aload_n (i := 0) (t := 162) C d_M_compare_161 rfl rfl (by first | exact jrv_r | exact jrv_n | exact jrv_f) rfl ?_
              refine j_get (t := 165) C fl_M_20 d_M_compare_162 hM.1 rfl rfl ?_
              refine j_iload_n (i := 2) (t := 166) C d_M_compare_165 rfl rfl rfl ?_
              refine j_ld_size (i := i) (t := 167) C d_M_compare_166 hM (by first | rfl | simp only [nI_add, nI_mul, nI_1]) (by omega) ((hvx.2 rfl).1) rfl ?_
              refine j_aload_n (i := 0) (t := 168) C d_M_compare_167 rfl rfl (by first | exact jrv_r | exact jrv_n | exact jrv_f) rfl ?_
              refine j_get (t := 171) C fl_M_20 d_M_compare_168 hM.1 rfl rfl ?_
              refine j_iload_n (i := 3) (t := 172) C d_M_compare_171 rfl rfl rfl ?_
              refine j_ld_size (i := j) (t := 173) C d_M_compare_172 hM (by first | rfl | simp only [nI_add, nI_mul, nI_1]) (by omega) ((hvy.2 rfl).1) rfl ?_
              refine j_isub (t := 174) C d_M_compare_173 rfl ?_
              exact j_iret C d_M_compare_174 (by first | rfl | exact nar_b) (⟨rfl, _, rfl, cmp_end hx hy (by omega) (by omega) (by omega) htc⟩) (by omega) (by omega)
            · rw [nI_leI (by omega) (by omega)] at h128
              refine j_aload_n (i := 0) (t := 132) C d_M_compare_131 rfl rfl (by first | exact jrv_r | exact jrv_n | exact jrv_f) rfl ?_
              refine j_get (t := 135) C fl_M_24 d_M_compare_132 hM.1 rfl rfl ?_
              refine j_aload_n (i := 0) (t := 136) C d_M_compare_135 rfl rfl (by first | exact jrv_r | exact jrv_n | exact jrv_f) rfl ?_
              refine j_get (t := 139) C fl_M_17 d_M_compare_136 hM.1 rfl rfl ?_
              refine j_iload_n (i := 2) (t := 140) C d_M_compare_139 rfl rfl rfl ?_
              refine j_ld_from (i := i) (t := 141) C d_M_compare_140 hM (by first | rfl | simp only [nI_add, nI_mul, nI_1]) (by omega) ((hvx.2 rfl).2.1) rfl ?_
              refine j_iload (t := 143) C d_M_compare_141 rfl rfl ?_
              refine j_iadd (t := 144) C d_M_compare_143 rfl ?_
              refine j_ld_bytes (i := p + k) (t := 145) C d_M_compare_144 hM (by first | rfl | simp only [nI_add, nI_mul, nI_1]) (by omega) ((hvx.2 rfl).2.2 k (by omega)) rfl ?_
              refine j_aload_n (i := 0) (t := 146) C d_M_compare_145 rfl rfl (by first | exact jrv_r | exact jrv_n | exact jrv_f) rfl ?_
              refine j_get (t := 149) C fl_M_24 d_M_compare_146 hM.1 rfl rfl ?_
              refine j_aload_n (i := 0) (t := 150) C d_M_compare_149 rfl rfl (by first | exact jrv_r | exact jrv_n | exact jrv_f) rfl ?_
              refine j_get (t := 153) C fl_M_17 d_M_compare_150 hM.1 rfl rfl ?_
              refine j_iload_n (i := 3) (t := 154) C d_M_compare_153 rfl rfl rfl ?_
              refine j_ld_from (i := j) (t := 155) C d_M_compare_154 hM (by first | rfl | simp only [nI_add, nI_mul, nI_1]) (by omega) ((hvy.2 rfl).2.1) rfl ?_
              refine j_iload (t := 157) C d_M_compare_155 rfl rfl ?_
              refine j_iadd (t := 158) C d_M_compare_157 rfl ?_
              refine j_ld_bytes (i := p' + k) (t := 159) C d_M_compare_158 hM (by first | rfl | simp only [nI_add, nI_mul, nI_1]) (by omega) ((hvy.2 rfl).2.2 k (by omega)) rfl ?_
              refine j_isub (t := 160) C d_M_compare_159 rfl ?_
              exact j_iret C d_M_compare_160 (by first | rfl | exact nar_b) (by first | exact ⟨rfl, _, rfl, cmp_byte hx hy (by omega) (by omega) htc h100⟩ | (exfalso; omega)) (by omega) (by omega)
        · rw [nI_leI (by omega) (by omega)] at h69
          refine j_aload_n (i := 0) (t := 73) C d_M_compare_72 rfl rfl (by first | exact jrv_r | exact jrv_n | exact jrv_f) rfl ?_
          refine j_get (t := 76) C fl_M_24 d_M_compare_73 hM.1 rfl rfl ?_
          refine j_aload_n (i := 0) (t := 77) C d_M_compare_76 rfl rfl (by first | exact jrv_r | exact jrv_n | exact jrv_f) rfl ?_
          refine j_get (t := 80) C fl_M_17 d_M_compare_77 hM.1 rfl rfl ?_
          refine j_iload_n (i := 2) (t := 81) C d_M_compare_80 rfl rfl rfl ?_
          refine j_ld_from (i := i) (t := 82) C d_M_compare_81 hM (by first | rfl | simp only [nI_add, nI_mul, nI_1]) (by omega) ((hvx.2 rfl).2.1) rfl ?_
          refine j_iload (t := 84) C d_M_compare_82 rfl rfl ?_
          refine j_iadd (t := 85) C d_M_compare_84 rfl ?_
          refine j_ld_bytes (i := p + k) (t := 86) C d_M_compare_85 hM (by first | rfl | simp only [nI_add, nI_mul, nI_1]) (by omega) ((hvx.2 rfl).2.2 k (by omega)) rfl ?_
          refine j_aload_n (i := 0) (t := 87) C d_M_compare_86 rfl rfl (by first | exact jrv_r | exact jrv_n | exact jrv_f) rfl ?_
          refine j_get (t := 90) C fl_M_24 d_M_compare_87 hM.1 rfl rfl ?_
          refine j_aload_n (i := 0) (t := 91) C d_M_compare_90 rfl rfl (by first | exact jrv_r | exact jrv_n | exact jrv_f) rfl ?_
          refine j_get (t := 94) C fl_M_17 d_M_compare_91 hM.1 rfl rfl ?_
          refine j_iload_n (i := 3) (t := 95) C d_M_compare_94 rfl rfl rfl ?_
          refine j_ld_from (i := j) (t := 96) C d_M_compare_95 hM (by first | rfl | simp only [nI_add, nI_mul, nI_1]) (by omega) ((hvy.2 rfl).2.1) rfl ?_
          refine j_iload (t := 98) C d_M_compare_96 rfl rfl ?_
          refine j_iadd (t := 99) C d_M_compare_98 rfl ?_
          refine j_ld_bytes (i := p' + k) (t := 100) C d_M_compare_99 hM (by first | rfl | simp only [nI_add, nI_mul, nI_1]) (by omega) ((hvy.2 rfl).2.2 k (by omega)) rfl ?_
          refine j_icmp_ne (tgt := 109) (t := 103) C d_M_compare_100 (by decide) rfl (fun h100 => ?_) (fun h100 => ?_)
          · try rw [nI_leI (by omega) (by omega)] at h58
            try rw [nI_leI (by omega) (by omega)] at h69
            refine j_iload (t := 111) C d_M_compare_109 rfl rfl ?_
            refine j_aload_n (i := 0) (t := 112) C d_M_compare_111 rfl rfl (by first | exact jrv_r | exact jrv_n | exact jrv_f) rfl ?_
            refine j_get (t := 115) C fl_M_20 d_M_compare_112 hM.1 rfl rfl ?_
            refine j_iload_n (i := 2) (t := 116) C d_M_compare_115 rfl rfl rfl ?_
            refine j_ld_size (i := i) (t := 117) C d_M_compare_116 hM (by first | rfl | simp only [nI_add, nI_mul, nI_1]) (by omega) ((hvx.2 rfl).1) rfl ?_
            refine j_icmp_ge (tgt := 161) (t := 120) C d_M_compare_117 (by decide) rfl (fun h117 => ?_) (fun h117 => ?_)
            · try rw [nI_leI (by omega) (by omega)] at h117
              try rw [nI_leI (by omega) (by omega)] at h128
              refine j_aload_n (i := 0) (t := 162) C d_M_compare_161 rfl rfl (by first | exact jrv_r | exact jrv_n | exact jrv_f) rfl ?_
              refine j_get (t := 165) C fl_M_20 d_M_compare_162 hM.1 rfl rfl ?_
              refine j_iload_n (i := 2) (t := 166) C d_M_compare_165 rfl rfl rfl ?_
              refine j_ld_size (i := i) (t := 167) C d_M_compare_166 hM (by first | rfl | simp only [nI_add, nI_mul, nI_1]) (by omega) ((hvx.2 rfl).1) rfl ?_
              refine j_aload_n (i := 0) (t := 168) C d_M_compare_167 rfl rfl (by first | exact jrv_r | exact jrv_n | exact jrv_f) rfl ?_
              refine j_get (t := 171) C fl_M_20 d_M_compare_168 hM.1 rfl rfl ?_
              refine j_iload_n (i := 3) (t := 172) C d_M_compare_171 rfl rfl rfl ?_
              refine j_ld_size (i := j) (t := 173) C d_M_compare_172 hM (by first | rfl | simp only [nI_add, nI_mul, nI_1]) (by omega) ((hvy.2 rfl).1) rfl ?_
              refine j_isub (t := 174) C d_M_compare_173 rfl ?_
              exact j_iret C d_M_compare_174 (by first | rfl | exact nar_b) (⟨rfl, _, rfl, cmp_end hx hy (by omega) (by omega) (by omega) htc⟩) (by omega) (by omega)
            · rw [nI_leI (by omega) (by omega)] at h117
              refine j_iload (t := 122) C d_M_compare_120 rfl rfl ?_
              refine j_aload_n (i := 0) (t := 123) C d_M_compare_122 rfl rfl (by first | exact jrv_r | exact jrv_n | exact jrv_f) rfl ?_
              refine j_get (t := 126) C fl_M_20 d_M_compare_123 hM.1 rfl rfl ?_
              refine j_iload_n (i := 3) (t := 127) C d_M_compare_126 rfl rfl rfl ?_
              refine j_ld_size (i := j) (t := 128) C d_M_compare_127 hM (by first | rfl | simp only [nI_add, nI_mul, nI_1]) (by omega) ((hvy.2 rfl).1) rfl ?_
              refine j_icmp_ge (tgt := 161) (t := 131) C d_M_compare_128 (by decide) rfl (fun h128 => ?_) (fun h128 => ?_)
              · try rw [nI_leI (by omega) (by omega)] at h117
                try rw [nI_leI (by omega) (by omega)] at h128
                refine j_aload_n (i := 0) (t := 162) C d_M_compare_161 rfl rfl (by first | exact jrv_r | exact jrv_n | exact jrv_f) rfl ?_
                refine j_get (t := 165) C fl_M_20 d_M_compare_162 hM.1 rfl rfl ?_
                refine j_iload_n (i := 2) (t := 166) C d_M_compare_165 rfl rfl rfl ?_
                refine j_ld_size (i := i) (t := 167) C d_M_compare_166 hM (by first | rfl | simp only [nI_add, nI_mul, nI_1]) (by omega) ((hvx.2 rfl).1) rfl ?_
                refine j_aload_n (i := 0) (t := 168) C d_M_compare_167 rfl rfl (by first | exact jrv_r | exact jrv_n | exact jrv_f) rfl ?_
                refine j_get (t := 171) C fl_M_20 d_M_compare_168 hM.1 rfl rfl ?_
                refine j_iload_n (i := 3) (t := 172) C d_M_compare_171 rfl rfl rfl ?_
                refine j_ld_size (i := j) (t := 173) C d_M_compare_172 hM (by first | rfl | simp only [nI_add, nI_mul, nI_1]) (by omega) ((hvy.2 rfl).1) rfl ?_
                refine j_isub (t := 174) C d_M_compare_173 rfl ?_
                exact j_iret C d_M_compare_174 (by first | rfl | exact nar_b) (⟨rfl, _, rfl, cmp_end hx hy (by omega) (by omega) (by omega) htc⟩) (by omega) (by omega)
              · rw [nI_leI (by omega) (by omega)] at h128
                refine j_aload_n (i := 0) (t := 132) C d_M_compare_131 rfl rfl (by first | exact jrv_r | exact jrv_n | exact jrv_f) rfl ?_
                refine j_get (t := 135) C fl_M_24 d_M_compare_132 hM.1 rfl rfl ?_
                refine j_aload_n (i := 0) (t := 136) C d_M_compare_135 rfl rfl (by first | exact jrv_r | exact jrv_n | exact jrv_f) rfl ?_
                refine j_get (t := 139) C fl_M_17 d_M_compare_136 hM.1 rfl rfl ?_
                refine j_iload_n (i := 2) (t := 140) C d_M_compare_139 rfl rfl rfl ?_
                refine j_ld_from (i := i) (t := 141) C d_M_compare_140 hM (by first | rfl | simp only [nI_add, nI_mul, nI_1]) (by omega) ((hvx.2 rfl).2.1) rfl ?_
                refine j_iload (t := 143) C d_M_compare_141 rfl rfl ?_
                refine j_iadd (t := 144) C d_M_compare_143 rfl ?_
                refine j_ld_bytes (i := p + k) (t := 145) C d_M_compare_144 hM (by first | rfl | simp only [nI_add, nI_mul, nI_1]) (by omega) ((hvx.2 rfl).2.2 k (by omega)) rfl ?_
                refine j_aload_n (i := 0) (t := 146) C d_M_compare_145 rfl rfl (by first | exact jrv_r | exact jrv_n | exact jrv_f) rfl ?_
                refine j_get (t := 149) C fl_M_24 d_M_compare_146 hM.1 rfl rfl ?_
                refine j_aload_n (i := 0) (t := 150) C d_M_compare_149 rfl rfl (by first | exact jrv_r | exact jrv_n | exact jrv_f) rfl ?_
                refine j_get (t := 153) C fl_M_17 d_M_compare_150 hM.1 rfl rfl ?_
                refine j_iload_n (i := 3) (t := 154) C d_M_compare_153 rfl rfl rfl ?_
                refine j_ld_from (i := j) (t := 155) C d_M_compare_154 hM (by first | rfl | simp only [nI_add, nI_mul, nI_1]) (by omega) ((hvy.2 rfl).2.1) rfl ?_
                refine j_iload (t := 157) C d_M_compare_155 rfl rfl ?_
                refine j_iadd (t := 158) C d_M_compare_157 rfl ?_
                refine j_ld_bytes (i := p' + k) (t := 159) C d_M_compare_158 hM (by first | rfl | simp only [nI_add, nI_mul, nI_1]) (by omega) ((hvy.2 rfl).2.2 k (by omega)) rfl ?_
                refine j_isub (t := 160) C d_M_compare_159 rfl ?_
                exact j_iret C d_M_compare_160 (by first | rfl | exact nar_b) (by first | exact ⟨rfl, _, rfl, cmp_byte hx hy (by omega) (by omega) htc h100⟩ | (exfalso; omega)) (by omega) (by omega)
          · refine j_iinc (y := _ + 1) (t := 106) (lv' := [(0, _), (1, _), (2, _), (3, _), (4, _)]) C d_M_compare_103 rfl rfl (by decide) (by decide) rfl rfl ?_
            refine j_goto (tgt := 50) C d_M_compare_106 (by decide) ?_
            rw [nI_1]
            exact ih (k + 1) (by omega) (by omega) (by omega) (cmp_next hx hy (by omega) (by omega) htc (by simpa using h100))
  refine j_iload_n (i := 1) (t := 1) C d_M_compare_0 rfl rfl rfl ?_
  refine j_iconst (x := 2) (t := 2) C d_M_compare_1 rfl rfl ?_
  refine j_icmp_eq (tgt := 47) (t := 5) C d_M_compare_2 (by decide) rfl (fun h2 => ?_) (fun h2 => ?_)
  · refine j_iconst (x := 0) (t := 48) C d_M_compare_47 rfl rfl ?_
    refine j_istore (i := 4) (t := 50) (lv' := [(0, _), (1, _), (2, _), (3, _), (4, _)]) C d_M_compare_48 (by decide) (by decide) rfl rfl ?_
    exact loop h2 (x.2.2.length + 1) 0 (by omega) (Nat.zero_le _) (Nat.zero_le _) rfl
  · refine j_aload_n (i := 0) (t := 6) C d_M_compare_5 rfl rfl (by first | exact jrv_r | exact jrv_n | exact jrv_f) rfl ?_
    refine j_get (t := 9) C fl_M_13 d_M_compare_6 hM.1 rfl rfl ?_
    refine j_iload_n (i := 2) (t := 10) C d_M_compare_9 rfl rfl rfl ?_
    refine j_ld_num (i := i) (t := 11) C d_M_compare_10 hM (by first | rfl | simp only [nI_add, nI_mul, nI_1]) (by omega) (hvx.1 h2) rfl ?_
    refine j_aload_n (i := 0) (t := 12) C d_M_compare_11 rfl rfl (by first | exact jrv_r | exact jrv_n | exact jrv_f) rfl ?_
    refine j_get (t := 15) C fl_M_13 d_M_compare_12 hM.1 rfl rfl ?_
    refine j_iload_n (i := 3) (t := 16) C d_M_compare_15 rfl rfl rfl ?_
    refine j_ld_num (i := j) (t := 17) C d_M_compare_16 hM (by first | rfl | simp only [nI_add, nI_mul, nI_1]) (by omega) (hvy.1 h2) rfl ?_
    refine j_lcmp (t := 18) C d_M_compare_17 rfl ?_
    refine j_if_ge (tgt := 25) (t := 21) C d_M_compare_18 (by decide) rfl (fun h18 => ?_) (fun h18 => ?_)
    · refine j_aload_n (i := 0) (t := 26) C d_M_compare_25 rfl rfl (by first | exact jrv_r | exact jrv_n | exact jrv_f) rfl ?_
      refine j_get (t := 29) C fl_M_13 d_M_compare_26 hM.1 rfl rfl ?_
      refine j_iload_n (i := 2) (t := 30) C d_M_compare_29 rfl rfl rfl ?_
      refine j_ld_num (i := i) (t := 31) C d_M_compare_30 hM (by first | rfl | simp only [nI_add, nI_mul, nI_1]) (by omega) (hvx.1 h2) rfl ?_
      refine j_aload_n (i := 0) (t := 32) C d_M_compare_31 rfl rfl (by first | exact jrv_r | exact jrv_n | exact jrv_f) rfl ?_
      refine j_get (t := 35) C fl_M_13 d_M_compare_32 hM.1 rfl rfl ?_
      refine j_iload_n (i := 3) (t := 36) C d_M_compare_35 rfl rfl rfl ?_
      refine j_ld_num (i := j) (t := 37) C d_M_compare_36 hM (by first | rfl | simp only [nI_add, nI_mul, nI_1]) (by omega) (hvy.1 h2) rfl ?_
      refine j_lcmp (t := 38) C d_M_compare_37 rfl ?_
      refine j_if_le (tgt := 45) (t := 41) C d_M_compare_38 (by decide) rfl (fun h38 => ?_) (fun h38 => ?_)
      · refine j_iconst (x := 0) (t := 46) C d_M_compare_45 rfl rfl ?_
        exact j_iret C d_M_compare_46 (by first | rfl | exact nar_b) (⟨rfl, _, rfl, by first | exact ⟨order_num_lt (cmp_0 h2 hx hy) h18, by decide, by decide⟩ | exact ⟨order_num_gt (cmp_0 h2 hx hy) h18 h38, by decide, by decide⟩ | exact ⟨order_num_eq (cmp_0 h2 hx hy) h18 h38, by decide, by decide⟩⟩) (by omega) (by omega)
      · refine j_iconst (x := 1) (t := 42) C d_M_compare_41 rfl rfl ?_
        refine j_goto (tgt := 46) C d_M_compare_42 (by decide) ?_
        exact j_iret C d_M_compare_46 (by first | rfl | exact nar_b) (⟨rfl, _, rfl, by first | exact ⟨order_num_lt (cmp_0 h2 hx hy) h18, by decide, by decide⟩ | exact ⟨order_num_gt (cmp_0 h2 hx hy) h18 h38, by decide, by decide⟩ | exact ⟨order_num_eq (cmp_0 h2 hx hy) h18 h38, by decide, by decide⟩⟩) (by omega) (by omega)
    · refine j_iconst (x := (-1)) (t := 22) C d_M_compare_21 rfl rfl ?_
      refine j_goto (tgt := 46) C d_M_compare_22 (by decide) ?_
      exact j_iret C d_M_compare_46 (by first | rfl | exact nar_b) (⟨rfl, _, rfl, by first | exact ⟨order_num_lt (cmp_0 h2 hx hy) h18, by decide, by decide⟩ | exact ⟨order_num_gt (cmp_0 h2 hx hy) h18 h38, by decide, by decide⟩ | exact ⟨order_num_eq (cmp_0 h2 hx hy) h18 h38, by decide, by decide⟩⟩) (by omega) (by omega)
