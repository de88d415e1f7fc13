set_option maxHeartbeats 4000000 in
set_option maxRecDepth 100000 in
/-- canBe, kind 0 -/
theorem c_S_canBe_0 (l : Launch) (a ca : Nat) (op : Int32) (oth : Option Nat) (al : Nat) (fi mn : Int32) (kn : Bool) (kr km : Int32) (lo hi : jv) (ec : Nat) (ef : Nat → jv) : MC l y_S_canBe b_S_canBe 3 (some .int) 4 0 0
    (fun G w av => av = [.ref a] ∧ jh w a (eO cS [.int 0, va_rf (some ca), .int op, va_rf oth, .ref al, .int fi, .int mn]) ∧ isM G w ca kn kr km lo hi ec ef ∧ oth = none)
    (fun G w av r w' => w' = w ∧ r = some (.int (bif kn then trS (decide (km < kr)) (decide (0 < km)) false else 3))) := by
  refine MC.of 99 (by decide) ?_
  intro X w av hl C hnm hp
  obtain ⟨rfl, ha, ⟨ty, ra, rc, tb, lA, hA, ea, eI1, sa, hca, hM⟩, rfl⟩ := hp
  refine ⟨[(0, _)], rfl, Nat.le_of_ble_eq_true rfl, rfl, ?_⟩
  cases kn with
  | false =>
    refine j_aload_n (i := 0) (t := 1) C d_S_canBe_0 rfl rfl (by first | exact jrv_r | exact jrv_n | exact jrv_f) rfl ?_
    refine j_get (t := 4) C fl_S_9 d_S_canBe_1 (by assumption) (by first | rfl | assumption) rfl ?_
    refine j_if_eq (tgt := 15) (t := 7) C d_S_canBe_4 (by decide) rfl (fun h4 => ?_) (fun h4 => absurd h4 (by decide))
    refine j_iconst (x := 1) (t := 16) C d_S_canBe_15 rfl rfl ?_
    refine j_goto (tgt := 20) C d_S_canBe_16 (by decide) ?_
    refine j_istore_n (i := 1) (t := 21) (lv' := [(0, _), (1, _)]) C d_S_canBe_20 rfl (by decide) (by decide) rfl rfl ?_
    refine j_aload_n (i := 0) (t := 22) C d_S_canBe_21 rfl rfl (by first | exact jrv_r | exact jrv_n | exact jrv_f) rfl ?_
    refine j_get (t := 25) C fl_S_15 d_S_canBe_22 (by assumption) (by first | rfl | assumption) rfl ?_
    refine j_ifnull (tgt := 55) (t := 28) C d_S_canBe_25 (by decide) rfl (fun h25 => absurd h25 (by simp)) (fun a25 h25 => ?_)
    refine j_aload_n (i := 0) (t := 29) C d_S_canBe_28 rfl rfl (by first | exact jrv_r | exact jrv_n | exact jrv_f) rfl ?_
    refine j_get (t := 32) C fl_S_15 d_S_canBe_29 (by assumption) (by first | rfl | assumption) rfl ?_
    refine j_get (t := 35) C fl_S_58 d_S_canBe_32 (by assumption) (by first | rfl | assumption) rfl ?_
    refine j_if_eq (tgt := 55) (t := 38) C d_S_canBe_35 (by decide) rfl (fun h35 => ?_) (fun h35 => absurd h35 (by decide))
    refine j_iconst (x := 1) (t := 56) C d_S_canBe_55 rfl rfl ?_
    refine j_iconst (x := 1) (t := 57) C d_S_canBe_56 rfl rfl ?_
    refine j_iload_n (i := 1) (t := 58) C d_S_canBe_57 rfl rfl rfl ?_
    refine j_if_ne (tgt := 65) (t := 61) C d_S_canBe_58 (by decide) rfl (fun h58 => ?_) (fun h58 => absurd h58 (by decide))
    refine j_iconst (x := 0) (t := 66) C d_S_canBe_65 rfl rfl ?_
    refine j_callSN (As := [_, _, _]) (t := 69) C (c_T_truthSet _ (true) (true) (false)) d_S_canBe_66 jb_T_truthSet ml_S_62 st_T_truthSet rfl (Nat.le_of_ble_eq_true rfl) (by decide) (by omega) (by omega) (rfl) rfl (fun r66 w66 p66 => ?_)
    obtain ⟨rfl, rfl⟩ := p66
    dsimp only [jst]
    exact j_iret C d_S_canBe_69 rfl (⟨rfl, rfl⟩) (by omega) (by omega)
  | true =>
    have hsm : (decide (km < kr) && lA.isSome && hA.isSome) = decide (km < kr) := isM_sm (fun q => ⟨(hM rfl q).1, (hM rfl q).2.1⟩)
    refine j_aload_n (i := 0) (t := 1) C d_S_canBe_0 rfl rfl (by first | exact jrv_r | exact jrv_n | exact jrv_f) rfl ?_
    refine j_get (t := 4) C fl_S_9 d_S_canBe_1 (by assumption) (by first | rfl | assumption) rfl ?_
    refine j_if_eq (tgt := 15) (t := 7) C d_S_canBe_4 (by decide) rfl (fun h4 => ?_) (fun h4 => absurd h4 (by decide))
    refine j_iconst (x := 1) (t := 16) C d_S_canBe_15 rfl rfl ?_
    refine j_goto (tgt := 20) C d_S_canBe_16 (by decide) ?_
    refine j_istore_n (i := 1) (t := 21) (lv' := [(0, _), (1, _)]) C d_S_canBe_20 rfl (by decide) (by decide) rfl rfl ?_
    refine j_aload_n (i := 0) (t := 22) C d_S_canBe_21 rfl rfl (by first | exact jrv_r | exact jrv_n | exact jrv_f) rfl ?_
    refine j_get (t := 25) C fl_S_15 d_S_canBe_22 (by assumption) (by first | rfl | assumption) rfl ?_
    refine j_ifnull (tgt := 55) (t := 28) C d_S_canBe_25 (by decide) rfl (fun h25 => absurd h25 (by simp)) (fun a25 h25 => ?_)
    refine j_aload_n (i := 0) (t := 29) C d_S_canBe_28 rfl rfl (by first | exact jrv_r | exact jrv_n | exact jrv_f) rfl ?_
    refine j_get (t := 32) C fl_S_15 d_S_canBe_29 (by assumption) (by first | rfl | assumption) rfl ?_
    refine j_get (t := 35) C fl_S_58 d_S_canBe_32 (by assumption) (by first | rfl | assumption) rfl ?_
    refine j_if_eq (tgt := 55) (t := 38) C d_S_canBe_35 (by decide) rfl (fun h35 => absurd h35 (by decide)) (fun h35 => ?_)
    refine j_aload_n (i := 0) (t := 39) C d_S_canBe_38 rfl rfl (by first | exact jrv_r | exact jrv_n | exact jrv_f) rfl ?_
    refine j_get (t := 42) C fl_S_22 d_S_canBe_39 (by assumption) (by first | rfl | assumption) rfl ?_
    refine j_ifnull (tgt := 70) (t := 45) C d_S_canBe_42 (by decide) rfl (fun h42 => ?_) (fun a42 h42 => absurd h42 (by simp))
    refine j_iload_n (i := 1) (t := 71) C d_S_canBe_70 rfl rfl rfl ?_
    refine j_if_eq (tgt := 109) (t := 74) C d_S_canBe_71 (by decide) rfl (fun h71 => absurd h71 (by decide)) (fun h71 => ?_)
    refine j_aload_n (i := 0) (t := 75) C d_S_canBe_74 rfl rfl (by first | exact jrv_r | exact jrv_n | exact jrv_f) rfl ?_
    refine j_get (t := 78) C fl_S_15 d_S_canBe_75 (by assumption) (by first | rfl | assumption) rfl ?_
    refine j_callV (As := []) (t := 81) C (c_C_mayHaveValues _ ca _ kr km lA hA) d_S_canBe_78 jb_C_mayHaveValues ml_S_66 jv_C_mayHaveValues (by assumption) rfl rfl rfl (Nat.le_of_ble_eq_true rfl) (by decide) (by omega) (by omega) (⟨rfl, by assumption, rfl, rfl, rfl, rfl⟩) rfl (fun r78 w78 p78 => ?_)
    obtain ⟨rfl, rfl⟩ := p78
    dsimp only [jst]
    rw [hsm]
    refine j_aload_n (i := 0) (t := 82) C d_S_canBe_81 rfl rfl (by first | exact jrv_r | exact jrv_n | exact jrv_f) rfl ?_
    refine j_get (t := 85) C fl_S_15 d_S_canBe_82 (by assumption) (by first | rfl | assumption) rfl ?_
    refine j_callV (As := []) (t := 88) C (c_C_mayMiss _ ca _ km) d_S_canBe_85 jb_C_mayMiss ml_S_70 jv_C_mayMiss (by assumption) rfl rfl rfl (Nat.le_of_ble_eq_true rfl) (by decide) (by omega) (by omega) (⟨rfl, by assumption, rfl⟩) rfl (fun r85 w85 p85 => ?_)
    obtain ⟨rfl, rfl⟩ := p85
    dsimp only [jst]
    refine j_iconst (x := 0) (t := 89) C d_S_canBe_88 rfl rfl ?_
    refine j_callSN (As := [_, _, _]) (t := 92) C (c_T_truthSet _ (decide (km < kr)) (decide (0 < km)) (false)) d_S_canBe_89 jb_T_truthSet ml_S_62 st_T_truthSet rfl (Nat.le_of_ble_eq_true rfl) (by decide) (by omega) (by omega) (rfl) rfl (fun r89 w89 p89 => ?_)
    obtain ⟨rfl, rfl⟩ := p89
    dsimp only [jst]
    refine j_istore_n (i := 2) (t := 93) (lv' := [(0, _), (1, _), (2, _)]) C d_S_canBe_92 rfl (by decide) (by decide) rfl rfl ?_
    refine j_aload_n (i := 0) (t := 94) C d_S_canBe_93 rfl rfl (by first | exact jrv_r | exact jrv_n | exact jrv_f) rfl ?_
    refine j_get (t := 97) C fl_S_9 d_S_canBe_94 (by assumption) (by first | rfl | assumption) rfl ?_
    refine j_if_ne (tgt := 104) (t := 100) C d_S_canBe_97 (by decide) rfl (fun h97 => absurd h97 (by decide)) (fun h97 => ?_)
    refine j_iload_n (i := 2) (t := 101) C d_S_canBe_100 rfl rfl rfl ?_
    refine j_goto (tgt := 108) C d_S_canBe_101 (by decide) ?_
    exact j_iret C d_S_canBe_108 rfl (⟨rfl, rfl⟩) (by omega) (by omega)

set_option maxHeartbeats 4000000 in
set_option maxRecDepth 100000 in
/-- canBe, kind 1 -/
theorem c_S_canBe_1 (l : Launch) (a ca : Nat) (op : Int32) (oth : Option Nat) (al : Nat) (fi mn : Int32) (kn : Bool) (kr km : Int32) (lo hi : jv) (ec : Nat) (ef : Nat → jv) : MC l y_S_canBe b_S_canBe 3 (some .int) 4 0 0
    (fun G w av => av = [.ref a] ∧ jh w a (eO cS [.int 1, va_rf (some ca), .int op, va_rf oth, .ref al, .int fi, .int mn]) ∧ isM G w ca kn kr km lo hi ec ef ∧ oth = none)
    (fun G w av r w' => w' = w ∧ r = some (.int (bif kn then nS (trS (decide (km < kr)) (decide (0 < km)) false) else 3))) := by
  refine MC.of 99 (by decide) ?_
  intro X w av hl C hnm hp
  obtain ⟨rfl, ha, ⟨ty, ra, rc, tb, lA, hA, ea, eI1, sa, hca, hM⟩, rfl⟩ := hp
  refine ⟨[(0, _)], rfl, Nat.le_of_ble_eq_true rfl, rfl, ?_⟩
  cases kn with
  | false =>
    refine j_aload_n (i := 0) (t := 1) C d_S_canBe_0 rfl rfl (by first | exact jrv_r | exact jrv_n | exact jrv_f) rfl ?_
    refine j_get (t := 4) C fl_S_9 d_S_canBe_1 (by assumption) (by first | rfl | assumption) rfl ?_
    refine j_if_eq (tgt := 15) (t := 7) C d_S_canBe_4 (by decide) rfl (fun h4 => absurd h4 (by decide)) (fun h4 => ?_)
    refine j_aload_n (i := 0) (t := 8) C d_S_canBe_7 rfl rfl (by first | exact jrv_r | exact jrv_n | exact jrv_f) rfl ?_
    refine j_get (t := 11) C fl_S_9 d_S_canBe_8 (by assumption) (by first | rfl | assumption) rfl ?_
    refine j_iconst (x := 1) (t := 12) C d_S_canBe_11 rfl rfl ?_
    refine j_icmp_ne (tgt := 19) (t := 15) C d_S_canBe_12 (by decide) rfl (fun h12 => absurd h12 (by decide)) (fun h12 => ?_)
    refine j_iconst (x := 1) (t := 16) C d_S_canBe_15 rfl rfl ?_
    refine j_goto (tgt := 20) C d_S_canBe_16 (by decide) ?_
    refine j_istore_n (i := 1) (t := 21) (lv' := [(0, _), (1, _)]) C d_S_canBe_20 rfl (by decide) (by decide) rfl rfl ?_
    refine j_aload_n (i := 0) (t := 22) C d_S_canBe_21 rfl rfl (by first | exact jrv_r | exact jrv_n | exact jrv_f) rfl ?_
    refine j_get (t := 25) C fl_S_15 d_S_canBe_22 (by assumption) (by first | rfl | assumption) rfl ?_
    refine j_ifnull (tgt := 55) (t := 28) C d_S_canBe_25 (by decide) rfl (fun h25 => absurd h25 (by simp)) (fun a25 h25 => ?_)
    refine j_aload_n (i := 0) (t := 29) C d_S_canBe_28 rfl rfl (by first | exact jrv_r | exact jrv_n | exact jrv_f) rfl ?_
    refine j_get (t := 32) C fl_S_15 d_S_canBe_29 (by assumption) (by first | rfl | assumption) rfl ?_
    refine j_get (t := 35) C fl_S_58 d_S_canBe_32 (by assumption) (by first | rfl | assumption) rfl ?_
    refine j_if_eq (tgt := 55) (t := 38) C d_S_canBe_35 (by decide) rfl (fun h35 => ?_) (fun h35 => absurd h35 (by decide))
    refine j_iconst (x := 1) (t := 56) C d_S_canBe_55 rfl rfl ?_
    refine j_iconst (x := 1) (t := 57) C d_S_canBe_56 rfl rfl ?_
    refine j_iload_n (i := 1) (t := 58) C d_S_canBe_57 rfl rfl rfl ?_
    refine j_if_ne (tgt := 65) (t := 61) C d_S_canBe_58 (by decide) rfl (fun h58 => ?_) (fun h58 => absurd h58 (by decide))
    refine j_iconst (x := 0) (t := 66) C d_S_canBe_65 rfl rfl ?_
    refine j_callSN (As := [_, _, _]) (t := 69) C (c_T_truthSet _ (true) (true) (false)) d_S_canBe_66 jb_T_truthSet ml_S_62 st_T_truthSet rfl (Nat.le_of_ble_eq_true rfl) (by decide) (by omega) (by omega) (rfl) rfl (fun r66 w66 p66 => ?_)
    obtain ⟨rfl, rfl⟩ := p66
    dsimp only [jst]
    exact j_iret C d_S_canBe_69 rfl (⟨rfl, rfl⟩) (by omega) (by omega)
  | true =>
    have hsm : (decide (km < kr) && lA.isSome && hA.isSome) = decide (km < kr) := isM_sm (fun q => ⟨(hM rfl q).1, (hM rfl q).2.1⟩)
    refine j_aload_n (i := 0) (t := 1) C d_S_canBe_0 rfl rfl (by first | exact jrv_r | exact jrv_n | exact jrv_f) rfl ?_
    refine j_get (t := 4) C fl_S_9 d_S_canBe_1 (by assumption) (by first | rfl | assumption) rfl ?_
    refine j_if_eq (tgt := 15) (t := 7) C d_S_canBe_4 (by decide) rfl (fun h4 => absurd h4 (by decide)) (fun h4 => ?_)
    refine j_aload_n (i := 0) (t := 8) C d_S_canBe_7 rfl rfl (by first | exact jrv_r | exact jrv_n | exact jrv_f) rfl ?_
    refine j_get (t := 11) C fl_S_9 d_S_canBe_8 (by assumption) (by first | rfl | assumption) rfl ?_
    refine j_iconst (x := 1) (t := 12) C d_S_canBe_11 rfl rfl ?_
    refine j_icmp_ne (tgt := 19) (t := 15) C d_S_canBe_12 (by decide) rfl (fun h12 => absurd h12 (by decide)) (fun h12 => ?_)
    refine j_iconst (x := 1) (t := 16) C d_S_canBe_15 rfl rfl ?_
    refine j_goto (tgt := 20) C d_S_canBe_16 (by decide) ?_
    refine j_istore_n (i := 1) (t := 21) (lv' := [(0, _), (1, _)]) C d_S_canBe_20 rfl (by decide) (by decide) rfl rfl ?_
    refine j_aload_n (i := 0) (t := 22) C d_S_canBe_21 rfl rfl (by first | exact jrv_r | exact jrv_n | exact jrv_f) rfl ?_
    refine j_get (t := 25) C fl_S_15 d_S_canBe_22 (by assumption) (by first | rfl | assumption) rfl ?_
    refine j_ifnull (tgt := 55) (t := 28) C d_S_canBe_25 (by decide) rfl (fun h25 => absurd h25 (by simp)) (fun a25 h25 => ?_)
    refine j_aload_n (i := 0) (t := 29) C d_S_canBe_28 rfl rfl (by first | exact jrv_r | exact jrv_n | exact jrv_f) rfl ?_
    refine j_get (t := 32) C fl_S_15 d_S_canBe_29 (by assumption) (by first | rfl | assumption) rfl ?_
    refine j_get (t := 35) C fl_S_58 d_S_canBe_32 (by assumption) (by first | rfl | assumption) rfl ?_
    refine j_if_eq (tgt := 55) (t := 38) C d_S_canBe_35 (by decide) rfl (fun h35 => absurd h35 (by decide)) (fun h35 => ?_)
    refine j_aload_n (i := 0) (t := 39) C d_S_canBe_38 rfl rfl (by first | exact jrv_r | exact jrv_n | exact jrv_f) rfl ?_
    refine j_get (t := 42) C fl_S_22 d_S_canBe_39 (by assumption) (by first | rfl | assumption) rfl ?_
    refine j_ifnull (tgt := 70) (t := 45) C d_S_canBe_42 (by decide) rfl (fun h42 => ?_) (fun a42 h42 => absurd h42 (by simp))
    refine j_iload_n (i := 1) (t := 71) C d_S_canBe_70 rfl rfl rfl ?_
    refine j_if_eq (tgt := 109) (t := 74) C d_S_canBe_71 (by decide) rfl (fun h71 => absurd h71 (by decide)) (fun h71 => ?_)
    refine j_aload_n (i := 0) (t := 75) C d_S_canBe_74 rfl rfl (by first | exact jrv_r | exact jrv_n | exact jrv_f) rfl ?_
    refine j_get (t := 78) C fl_S_15 d_S_canBe_75 (by assumption) (by first | rfl | assumption) rfl ?_
    refine j_callV (As := []) (t := 81) C (c_C_mayHaveValues _ ca _ kr km lA hA) d_S_canBe_78 jb_C_mayHaveValues ml_S_66 jv_C_mayHaveValues (by assumption) rfl rfl rfl (Nat.le_of_ble_eq_true rfl) (by decide) (by omega) (by omega) (⟨rfl, by assumption, rfl, rfl, rfl, rfl⟩) rfl (fun r78 w78 p78 => ?_)
    obtain ⟨rfl, rfl⟩ := p78
    dsimp only [jst]
    rw [hsm]
    refine j_aload_n (i := 0) (t := 82) C d_S_canBe_81 rfl rfl (by first | exact jrv_r | exact jrv_n | exact jrv_f) rfl ?_
    refine j_get (t := 85) C fl_S_15 d_S_canBe_82 (by assumption) (by first | rfl | assumption) rfl ?_
    refine j_callV (As := []) (t := 88) C (c_C_mayMiss _ ca _ km) d_S_canBe_85 jb_C_mayMiss ml_S_70 jv_C_mayMiss (by assumption) rfl rfl rfl (Nat.le_of_ble_eq_true rfl) (by decide) (by omega) (by omega) (⟨rfl, by assumption, rfl⟩) rfl (fun r85 w85 p85 => ?_)
    obtain ⟨rfl, rfl⟩ := p85
    dsimp only [jst]
    refine j_iconst (x := 0) (t := 89) C d_S_canBe_88 rfl rfl ?_
    refine j_callSN (As := [_, _, _]) (t := 92) C (c_T_truthSet _ (decide (km < kr)) (decide (0 < km)) (false)) d_S_canBe_89 jb_T_truthSet ml_S_62 st_T_truthSet rfl (Nat.le_of_ble_eq_true rfl) (by decide) (by omega) (by omega) (rfl) rfl (fun r89 w89 p89 => ?_)
    obtain ⟨rfl, rfl⟩ := p89
    dsimp only [jst]
    refine j_istore_n (i := 2) (t := 93) (lv' := [(0, _), (1, _), (2, _)]) C d_S_canBe_92 rfl (by decide) (by decide) rfl rfl ?_
    refine j_aload_n (i := 0) (t := 94) C d_S_canBe_93 rfl rfl (by first | exact jrv_r | exact jrv_n | exact jrv_f) rfl ?_
    refine j_get (t := 97) C fl_S_9 d_S_canBe_94 (by assumption) (by first | rfl | assumption) rfl ?_
    refine j_if_ne (tgt := 104) (t := 100) C d_S_canBe_97 (by decide) rfl (fun h97 => ?_) (fun h97 => absurd h97 (by decide))
    refine j_iload_n (i := 2) (t := 105) C d_S_canBe_104 rfl rfl rfl ?_
    refine j_callSN (As := [_]) (t := 108) C (c_T_not _ _) d_S_canBe_105 jb_T_not ml_S_73 st_T_not rfl (Nat.le_of_ble_eq_true rfl) (by decide) (by omega) (by omega) (rfl) rfl (fun r105 w105 p105 => ?_)
    obtain ⟨rfl, rfl⟩ := p105
    dsimp only [jst]
    exact j_iret C d_S_canBe_108 rfl (⟨rfl, rfl⟩) (by omega) (by omega)

set_option maxHeartbeats 4000000 in
set_option maxRecDepth 100000 in
/-- canBe, kind 2 -/
theorem c_S_canBe_2 (l : Launch) (a ca : Nat) (op : Int32) (oth : Option Nat) (al : Nat) (fi mn : Int32) (kn : Bool) (kr km : Int32) (lo hi : jv) (ec : Nat) (ef : Nat → jv) (lit : Nat → jv) (p m : Nat) : MC l y_S_canBe b_S_canBe 3 (some .int) 4 0 0
    (fun G w av => av = [.ref a] ∧ jh w a (eO cS [.int 2, va_rf (some ca), .int op, va_rf oth, .ref al, .int fi, .int mn]) ∧ isM G w ca kn kr km lo hi ec ef ∧ oth = none ∧ fi = nI p ∧ mn = nI m ∧ isL G w al lit p m)
    (fun G w av r w' => w' = w ∧ r = some (.int (bif kn then (bif decide (km < kr) then trS (outK lit p m lo hi ec ef) (inK lit p lo hi ec ef m) (decide (0 < km)) else trS false false (decide (0 < km))) else 7))) := by
  refine MC.of 99 (by decide) ?_
  intro X w av hl C hnm hp
  obtain ⟨rfl, ha, ⟨ty, ra, rc, tb, lA, hA, ea, eI1, sa, hca, hM⟩, rfl, rfl, rfl, hL⟩ := hp
  refine ⟨[(0, _)], rfl, Nat.le_of_ble_eq_true rfl, rfl, ?_⟩
  cases kn with
  | false =>
    refine j_aload_n (i := 0) (t := 1) C d_S_canBe_0 rfl rfl (by first | exact jrv_r | exact jrv_n | exact jrv_f) rfl ?_
    refine j_get (t := 4) C fl_S_9 d_S_canBe_1 (by assumption) (by first | rfl | assumption) rfl ?_
    refine j_if_eq (tgt := 15) (t := 7) C d_S_canBe_4 (by decide) rfl (fun h4 => absurd h4 (by decide)) (fun h4 => ?_)
    refine j_aload_n (i := 0) (t := 8) C d_S_canBe_7 rfl rfl (by first | exact jrv_r | exact jrv_n | exact jrv_f) rfl ?_
    refine j_get (t := 11) C fl_S_9 d_S_canBe_8 (by assumption) (by first | rfl | assumption) rfl ?_
    refine j_iconst (x := 1) (t := 12) C d_S_canBe_11 rfl rfl ?_
    refine j_icmp_ne (tgt := 19) (t := 15) C d_S_canBe_12 (by decide) rfl (fun h12 => ?_) (fun h12 => absurd h12 (by decide))
    refine j_iconst (x := 0) (t := 20) C d_S_canBe_19 rfl rfl ?_
    refine j_istore_n (i := 1) (t := 21) (lv' := [(0, _), (1, _)]) C d_S_canBe_20 rfl (by decide) (by decide) rfl rfl ?_
    refine j_aload_n (i := 0) (t := 22) C d_S_canBe_21 rfl rfl (by first | exact jrv_r | exact jrv_n | exact jrv_f) rfl ?_
    refine j_get (t := 25) C fl_S_15 d_S_canBe_22 (by assumption) (by first | rfl | assumption) rfl ?_
    refine j_ifnull (tgt := 55) (t := 28) C d_S_canBe_25 (by decide) rfl (fun h25 => absurd h25 (by simp)) (fun a25 h25 => ?_)
    refine j_aload_n (i := 0) (t := 29) C d_S_canBe_28 rfl rfl (by first | exact jrv_r | exact jrv_n | exact jrv_f) rfl ?_
    refine j_get (t := 32) C fl_S_15 d_S_canBe_29 (by assumption) (by first | rfl | assumption) rfl ?_
    refine j_get (t := 35) C fl_S_58 d_S_canBe_32 (by assumption) (by first | rfl | assumption) rfl ?_
    refine j_if_eq (tgt := 55) (t := 38) C d_S_canBe_35 (by decide) rfl (fun h35 => ?_) (fun h35 => absurd h35 (by decide))
    refine j_iconst (x := 1) (t := 56) C d_S_canBe_55 rfl rfl ?_
    refine j_iconst (x := 1) (t := 57) C d_S_canBe_56 rfl rfl ?_
    refine j_iload_n (i := 1) (t := 58) C d_S_canBe_57 rfl rfl rfl ?_
    refine j_if_ne (tgt := 65) (t := 61) C d_S_canBe_58 (by decide) rfl (fun h58 => absurd h58 (by decide)) (fun h58 => ?_)
    refine j_iconst (x := 1) (t := 62) C d_S_canBe_61 rfl rfl ?_
    refine j_goto (tgt := 66) C d_S_canBe_62 (by decide) ?_
    refine j_callSN (As := [_, _, _]) (t := 69) C (c_T_truthSet _ (true) (true) (true)) d_S_canBe_66 jb_T_truthSet ml_S_62 st_T_truthSet rfl (Nat.le_of_ble_eq_true rfl) (by decide) (by omega) (by omega) (rfl) rfl (fun r66 w66 p66 => ?_)
    obtain ⟨rfl, rfl⟩ := p66
    dsimp only [jst]
    exact j_iret C d_S_canBe_69 rfl (⟨rfl, rfl⟩) (by omega) (by omega)
  | true =>
    have hsm : (decide (km < kr) && lA.isSome && hA.isSome) = decide (km < kr) := isM_sm (fun q => ⟨(hM rfl q).1, (hM rfl q).2.1⟩)
    have tail : ∀ u : Bool, u = (decide (0 < km)) → J X (3, 99) (jQ X (fun r w' => w' = w ∧ r = some (.int (bif true then (bif decide (km < kr) then trS (outK lit p m lo hi ec ef) (inK lit p lo hi ec ef m) (decide (0 < km)) else trS false false (decide (0 < km))) else 7))) 0 0) w 0 0 142 [(0, .ref a), (1, .int 0), (2, .int (bI u))] [] := by
      intro u hu
      refine j_aload_n (i := 0) (t := 143) C d_S_canBe_142 rfl rfl (by first | exact jrv_r | exact jrv_n | exact jrv_f) rfl ?_
      refine j_get (t := 146) C fl_S_15 d_S_canBe_143 (by assumption) (by first | rfl | assumption) rfl ?_
      refine j_callV (As := []) (t := 149) C (c_C_mayHaveValues _ ca _ kr km lA hA) d_S_canBe_146 jb_C_mayHaveValues ml_S_66 jv_C_mayHaveValues (by assumption) rfl rfl rfl (Nat.le_of_ble_eq_true rfl) (by decide) (by omega) (by omega) (⟨rfl, by assumption, rfl, rfl, rfl, rfl⟩) rfl (fun r146 w146 p146 => ?_)
      obtain ⟨rfl, rfl⟩ := p146
      dsimp only [jst]
      rw [hsm]
      refine j_if_eq (tgt := 169) (t := 152) C d_S_canBe_149 (by decide) rfl (fun h149 => ?_) (fun h149 => ?_)
      · refine j_iconst (x := 0) (t := 170) C d_S_canBe_169 rfl rfl ?_
        refine j_iconst (x := 0) (t := 171) C d_S_canBe_170 rfl rfl ?_
        refine j_iload_n (i := 2) (t := 172) C d_S_canBe_171 rfl rfl rfl ?_
        refine j_callSN (As := [_, _, _]) (t := 175) C (c_T_truthSet _ (false) (false) (u)) d_S_canBe_172 jb_T_truthSet ml_S_62 st_T_truthSet rfl (Nat.le_of_ble_eq_true rfl) (by decide) (by omega) (by omega) (rfl) rfl (fun r172 w172 p172 => ?_)
        obtain ⟨rfl, rfl⟩ := p172
        dsimp only [jst]
        exact j_iret C d_S_canBe_175 rfl (⟨rfl, by rw [hu]; first | (rw [bI_0] at h149; rw [h149]; rfl) | (rw [bI_0, Bool.not_eq_false] at h149; rw [bI_0] at h166; rw [h149, h166]; rfl)⟩) (by omega) (by omega)
      · refine j_aload_n (i := 0) (t := 153) C d_S_canBe_152 rfl rfl (by first | exact jrv_r | exact jrv_n | exact jrv_f) rfl ?_
        refine j_get (t := 156) C fl_S_22 d_S_canBe_153 (by assumption) (by first | rfl | assumption) rfl ?_
        refine j_ifnull (tgt := 176) (t := 159) C d_S_canBe_156 (by decide) rfl (fun h156 => ?_) (fun a156 h156 => absurd h156 (by simp))
        rw [bI_0, Bool.not_eq_false] at h149
        have hkk := (hM rfl (of_decide_eq_true h149)).2.2
        refine j_aload_n (i := 0) (t := 177) C d_S_canBe_176 rfl rfl (by first | exact jrv_r | exact jrv_n | exact jrv_f) rfl ?_
        refine j_get (t := 180) C fl_S_9 d_S_canBe_177 (by assumption) (by first | rfl | assumption) rfl ?_
        refine j_iconst (x := 2) (t := 181) C d_S_canBe_180 rfl rfl ?_
        refine j_icmp_ne (tgt := 197) (t := 184) C d_S_canBe_181 (by decide) rfl (fun h181 => absurd h181 (by decide)) (fun h181 => ?_)
        refine j_aload_n (i := 0) (t := 185) C d_S_canBe_184 rfl rfl (by first | exact jrv_r | exact jrv_n | exact jrv_f) rfl ?_
        refine j_callV (As := []) (t := 188) C (c_S_canBeOutside _ a ca _ al lit p m lo hi ec ef) d_S_canBe_185 jb_S_canBeOutside ml_S_77 jv_S_canBeOutside (by assumption) rfl rfl rfl (Nat.le_of_ble_eq_true rfl) (by decide) (by omega) (by omega) (⟨rfl, by assumption, rfl, rfl, rfl, rfl, hL, hkk⟩) rfl (fun r185 w185 p185 => ?_)
        obtain ⟨rfl, rfl⟩ := p185
        dsimp only [jst]
        refine j_aload_n (i := 0) (t := 189) C d_S_canBe_188 rfl rfl (by first | exact jrv_r | exact jrv_n | exact jrv_f) rfl ?_
        refine j_callV (As := []) (t := 192) C (c_S_canBeInside _ a ca _ al lit p m lo hi ec ef) d_S_canBe_189 jb_S_canBeInside ml_S_80 jv_S_canBeInside (by assumption) rfl rfl rfl (Nat.le_of_ble_eq_true rfl) (by decide) (by omega) (by omega) (⟨rfl, by assumption, rfl, rfl, rfl, rfl, hL, hkk⟩) rfl (fun r189 w189 p189 => ?_)
        obtain ⟨rfl, rfl⟩ := p189
        dsimp only [jst]
        refine j_iload_n (i := 2) (t := 193) C d_S_canBe_192 rfl rfl rfl ?_
        refine j_callSN (As := [_, _, _]) (t := 196) C (c_T_truthSet _ (outK lit p m lo hi ec ef) (inK lit p lo hi ec ef m) (u)) d_S_canBe_193 jb_T_truthSet ml_S_62 st_T_truthSet rfl (Nat.le_of_ble_eq_true rfl) (by decide) (by omega) (by omega) (rfl) rfl (fun r193 w193 p193 => ?_)
        obtain ⟨rfl, rfl⟩ := p193
        dsimp only [jst]
        exact j_iret C d_S_canBe_196 rfl (⟨rfl, by rw [hu, h149]; rfl⟩) (by omega) (by omega)
    refine j_aload_n (i := 0) (t := 1) C d_S_canBe_0 rfl rfl (by first | exact jrv_r | exact jrv_n | exact jrv_f) rfl ?_
    refine j_get (t := 4) C fl_S_9 d_S_canBe_1 (by assumption) (by first | rfl | assumption) rfl ?_
    refine j_if_eq (tgt := 15) (t := 7) C d_S_canBe_4 (by decide) rfl (fun h4 => absurd h4 (by decide)) (fun h4 => ?_)
    refine j_aload_n (i := 0) (t := 8) C d_S_canBe_7 rfl rfl (by first | exact jrv_r | exact jrv_n | exact jrv_f) rfl ?_
    refine j_get (t := 11) C fl_S_9 d_S_canBe_8 (by assumption) (by first | rfl | assumption) rfl ?_
    refine j_iconst (x := 1) (t := 12) C d_S_canBe_11 rfl rfl ?_
    refine j_icmp_ne (tgt := 19) (t := 15) C d_S_canBe_12 (by decide) rfl (fun h12 => ?_) (fun h12 => absurd h12 (by decide))
    refine j_iconst (x := 0) (t := 20) C d_S_canBe_19 rfl rfl ?_
    refine j_istore_n (i := 1) (t := 21) (lv' := [(0, _), (1, _)]) C d_S_canBe_20 rfl (by decide) (by decide) rfl rfl ?_
    refine j_aload_n (i := 0) (t := 22) C d_S_canBe_21 rfl rfl (by first | exact jrv_r | exact jrv_n | exact jrv_f) rfl ?_
    refine j_get (t := 25) C fl_S_15 d_S_canBe_22 (by assumption) (by first | rfl | assumption) rfl ?_
    refine j_ifnull (tgt := 55) (t := 28) C d_S_canBe_25 (by decide) rfl (fun h25 => absurd h25 (by simp)) (fun a25 h25 => ?_)
    refine j_aload_n (i := 0) (t := 29) C d_S_canBe_28 rfl rfl (by first | exact jrv_r | exact jrv_n | exact jrv_f) rfl ?_
    refine j_get (t := 32) C fl_S_15 d_S_canBe_29 (by assumption) (by first | rfl | assumption) rfl ?_
    refine j_get (t := 35) C fl_S_58 d_S_canBe_32 (by assumption) (by first | rfl | assumption) rfl ?_
    refine j_if_eq (tgt := 55) (t := 38) C d_S_canBe_35 (by decide) rfl (fun h35 => absurd h35 (by decide)) (fun h35 => ?_)
    refine j_aload_n (i := 0) (t := 39) C d_S_canBe_38 rfl rfl (by first | exact jrv_r | exact jrv_n | exact jrv_f) rfl ?_
    refine j_get (t := 42) C fl_S_22 d_S_canBe_39 (by assumption) (by first | rfl | assumption) rfl ?_
    refine j_ifnull (tgt := 70) (t := 45) C d_S_canBe_42 (by decide) rfl (fun h42 => ?_) (fun a42 h42 => absurd h42 (by simp))
    refine j_iload_n (i := 1) (t := 71) C d_S_canBe_70 rfl rfl rfl ?_
    refine j_if_eq (tgt := 109) (t := 74) C d_S_canBe_71 (by decide) rfl (fun h71 => ?_) (fun h71 => absurd h71 (by decide))
    refine j_aload_n (i := 0) (t := 110) C d_S_canBe_109 rfl rfl (by first | exact jrv_r | exact jrv_n | exact jrv_f) rfl ?_
    refine j_get (t := 113) C fl_S_15 d_S_canBe_110 (by assumption) (by first | rfl | assumption) rfl ?_
    refine j_callV (As := []) (t := 116) C (c_C_mayMiss _ ca _ km) d_S_canBe_113 jb_C_mayMiss ml_S_70 jv_C_mayMiss (by assumption) rfl rfl rfl (Nat.le_of_ble_eq_true rfl) (by decide) (by omega) (by omega) (⟨rfl, by assumption, rfl⟩) rfl (fun r113 w113 p113 => ?_)
    obtain ⟨rfl, rfl⟩ := p113
    dsimp only [jst]
    refine j_if_ne (tgt := 136) (t := 119) C d_S_canBe_116 (by decide) rfl (fun h116 => ?_) (fun h116 => ?_)
    · refine j_iconst (x := 1) (t := 137) C d_S_canBe_136 rfl rfl ?_
      refine j_goto (tgt := 141) C d_S_canBe_137 (by decide) ?_
      refine j_istore_n (i := 2) (t := 142) (lv' := [(0, _), (1, _), (2, _)]) C d_S_canBe_141 rfl (by decide) (by decide) rfl rfl ?_
      first | exact tail true (by clear tail; simp only [bI_0, Bool.not_eq_false] at *; simp_all) | exact tail false (by clear tail; simp only [bI_0, Bool.not_eq_false] at *; simp_all)
    · refine j_aload_n (i := 0) (t := 120) C d_S_canBe_119 rfl rfl (by first | exact jrv_r | exact jrv_n | exact jrv_f) rfl ?_
      refine j_get (t := 123) C fl_S_22 d_S_canBe_120 (by assumption) (by first | rfl | assumption) rfl ?_
      refine j_ifnull (tgt := 140) (t := 126) C d_S_canBe_123 (by decide) rfl (fun h123 => ?_) (fun a123 h123 => absurd h123 (by simp))
      refine j_iconst (x := 0) (t := 141) C d_S_canBe_140 rfl rfl ?_
      refine j_istore_n (i := 2) (t := 142) (lv' := [(0, _), (1, _), (2, _)]) C d_S_canBe_141 rfl (by decide) (by decide) rfl rfl ?_
      first | exact tail true (by clear tail; simp only [bI_0, Bool.not_eq_false] at *; simp_all) | exact tail false (by clear tail; simp only [bI_0, Bool.not_eq_false] at *; simp_all)

set_option maxHeartbeats 4000000 in
set_option maxRecDepth 100000 in
/-- canBe, kind 3 -/
theorem c_S_canBe_3 (l : Launch) (a ca : Nat) (op : Int32) (oth : Option Nat) (al : Nat) (fi mn : Int32) (kn : Bool) (kr km : Int32) (lo hi : jv) (ec : Nat) (ef : Nat → jv) (lit : Nat → jv) (p : Nat) : MC l y_S_canBe b_S_canBe 3 (some .int) 4 0 0
    (fun G w av => av = [.ref a] ∧ jh w a (eO cS [.int 3, va_rf (some ca), .int op, va_rf oth, .ref al, .int fi, .int mn]) ∧ isM G w ca kn kr km lo hi ec ef ∧ oth = none ∧ fi = nI p ∧ isL G w al lit p 1)
    (fun G w av r w' => w' = w ∧ r = some (.int (bif kn then (bif decide (km < kr) then trS (cmL (cO op) lo hi ec ef (lit p)) (cmL op lo hi ec ef (lit p)) (decide (0 < km)) else trS false false (decide (0 < km))) else 7))) := by
  refine MC.of 99 (by decide) ?_
  intro X w av hl C hnm hp
  obtain ⟨rfl, ha, ⟨ty, ra, rc, tb, lA, hA, ea, eI1, sa, hca, hM⟩, rfl, rfl, f2, hal, hpm, hlt⟩ := hp
  refine ⟨[(0, _)], rfl, Nat.le_of_ble_eq_true rfl, rfl, ?_⟩
  cases kn with
  | false =>
    refine j_aload_n (i := 0) (t := 1) C d_S_canBe_0 rfl rfl (by first | exact jrv_r | exact jrv_n | exact jrv_f) rfl ?_
    refine j_get (t := 4) C fl_S_9 d_S_canBe_1 (by assumption) (by first | rfl | assumption) rfl ?_
    refine j_if_eq (tgt := 15) (t := 7) C d_S_canBe_4 (by decide) rfl (fun h4 => absurd h4 (by decide)) (fun h4 => ?_)
    refine j_aload_n (i := 0) (t := 8) C d_S_canBe_7 rfl rfl (by first | exact jrv_r | exact jrv_n | exact jrv_f) rfl ?_
    refine j_get (t := 11) C fl_S_9 d_S_canBe_8 (by assumption) (by first | rfl | assumption) rfl ?_
    refine j_iconst (x := 1) (t := 12) C d_S_canBe_11 rfl rfl ?_
    refine j_icmp_ne (tgt := 19) (t := 15) C d_S_canBe_12 (by decide) rfl (fun h12 => ?_) (fun h12 => absurd h12 (by decide))
    refine j_iconst (x := 0) (t := 20) C d_S_canBe_19 rfl rfl ?_
    refine j_istore_n (i := 1) (t := 21) (lv' := [(0, _), (1, _)]) C d_S_canBe_20 rfl (by decide) (by decide) rfl rfl ?_
    refine j_aload_n (i := 0) (t := 22) C d_S_canBe_21 rfl rfl (by first | exact jrv_r | exact jrv_n | exact jrv_f) rfl ?_
    refine j_get (t := 25) C fl_S_15 d_S_canBe_22 (by assumption) (by first | rfl | assumption) rfl ?_
    refine j_ifnull (tgt := 55) (t := 28) C d_S_canBe_25 (by decide) rfl (fun h25 => absurd h25 (by simp)) (fun a25 h25 => ?_)
    refine j_aload_n (i := 0) (t := 29) C d_S_canBe_28 rfl rfl (by first | exact jrv_r | exact jrv_n | exact jrv_f) rfl ?_
    refine j_get (t := 32) C fl_S_15 d_S_canBe_29 (by assumption) (by first | rfl | assumption) rfl ?_
    refine j_get (t := 35) C fl_S_58 d_S_canBe_32 (by assumption) (by first | rfl | assumption) rfl ?_
    refine j_if_eq (tgt := 55) (t := 38) C d_S_canBe_35 (by decide) rfl (fun h35 => ?_) (fun h35 => absurd h35 (by decide))
    refine j_iconst (x := 1) (t := 56) C d_S_canBe_55 rfl rfl ?_
    refine j_iconst (x := 1) (t := 57) C d_S_canBe_56 rfl rfl ?_
    refine j_iload_n (i := 1) (t := 58) C d_S_canBe_57 rfl rfl rfl ?_
    refine j_if_ne (tgt := 65) (t := 61) C d_S_canBe_58 (by decide) rfl (fun h58 => absurd h58 (by decide)) (fun h58 => ?_)
    refine j_iconst (x := 1) (t := 62) C d_S_canBe_61 rfl rfl ?_
    refine j_goto (tgt := 66) C d_S_canBe_62 (by decide) ?_
    refine j_callSN (As := [_, _, _]) (t := 69) C (c_T_truthSet _ (true) (true) (true)) d_S_canBe_66 jb_T_truthSet ml_S_62 st_T_truthSet rfl (Nat.le_of_ble_eq_true rfl) (by decide) (by omega) (by omega) (rfl) rfl (fun r66 w66 p66 => ?_)
    obtain ⟨rfl, rfl⟩ := p66
    dsimp only [jst]
    exact j_iret C d_S_canBe_69 rfl (⟨rfl, rfl⟩) (by omega) (by omega)
  | true =>
    have hsm : (decide (km < kr) && lA.isSome && hA.isSome) = decide (km < kr) := isM_sm (fun q => ⟨(hM rfl q).1, (hM rfl q).2.1⟩)
    have tail : ∀ u : Bool, u = (decide (0 < km)) → J X (3, 99) (jQ X (fun r w' => w' = w ∧ r = some (.int (bif true then (bif decide (km < kr) then trS (cmL (cO op) lo hi ec ef (lit p)) (cmL op lo hi ec ef (lit p)) (decide (0 < km)) else trS false false (decide (0 < km))) else 7))) 0 0) w 0 0 142 [(0, .ref a), (1, .int 0), (2, .int (bI u))] [] := by
      intro u hu
      refine j_aload_n (i := 0) (t := 143) C d_S_canBe_142 rfl rfl (by first | exact jrv_r | exact jrv_n | exact jrv_f) rfl ?_
      refine j_get (t := 146) C fl_S_15 d_S_canBe_143 (by assumption) (by first | rfl | assumption) rfl ?_
      refine j_callV (As := []) (t := 149) C (c_C_mayHaveValues _ ca _ kr km lA hA) d_S_canBe_146 jb_C_mayHaveValues ml_S_66 jv_C_mayHaveValues (by assumption) rfl rfl rfl (Nat.le_of_ble_eq_true rfl) (by decide) (by omega) (by omega) (⟨rfl, by assumption, rfl, rfl, rfl, rfl⟩) rfl (fun r146 w146 p146 => ?_)
      obtain ⟨rfl, rfl⟩ := p146
      dsimp only [jst]
      rw [hsm]
      refine j_if_eq (tgt := 169) (t := 152) C d_S_canBe_149 (by decide) rfl (fun h149 => ?_) (fun h149 => ?_)
      · refine j_iconst (x := 0) (t := 170) C d_S_canBe_169 rfl rfl ?_
        refine j_iconst (x := 0) (t := 171) C d_S_canBe_170 rfl rfl ?_
        refine j_iload_n (i := 2) (t := 172) C d_S_canBe_171 rfl rfl rfl ?_
        refine j_callSN (As := [_, _, _]) (t := 175) C (c_T_truthSet _ (false) (false) (u)) d_S_canBe_172 jb_T_truthSet ml_S_62 st_T_truthSet rfl (Nat.le_of_ble_eq_true rfl) (by decide) (by omega) (by omega) (rfl) rfl (fun r172 w172 p172 => ?_)
        obtain ⟨rfl, rfl⟩ := p172
        dsimp only [jst]
        exact j_iret C d_S_canBe_175 rfl (⟨rfl, by rw [hu]; first | (rw [bI_0] at h149; rw [h149]; rfl) | (rw [bI_0, Bool.not_eq_false] at h149; rw [bI_0] at h166; rw [h149, h166]; rfl)⟩) (by omega) (by omega)
      · refine j_aload_n (i := 0) (t := 153) C d_S_canBe_152 rfl rfl (by first | exact jrv_r | exact jrv_n | exact jrv_f) rfl ?_
        refine j_get (t := 156) C fl_S_22 d_S_canBe_153 (by assumption) (by first | rfl | assumption) rfl ?_
        refine j_ifnull (tgt := 176) (t := 159) C d_S_canBe_156 (by decide) rfl (fun h156 => ?_) (fun a156 h156 => absurd h156 (by simp))
        rw [bI_0, Bool.not_eq_false] at h149
        have hkk := (hM rfl (of_decide_eq_true h149)).2.2
        refine j_aload_n (i := 0) (t := 177) C d_S_canBe_176 rfl rfl (by first | exact jrv_r | exact jrv_n | exact jrv_f) rfl ?_
        refine j_get (t := 180) C fl_S_9 d_S_canBe_177 (by assumption) (by first | rfl | assumption) rfl ?_
        refine j_iconst (x := 2) (t := 181) C d_S_canBe_180 rfl rfl ?_
        refine j_icmp_ne (tgt := 197) (t := 184) C d_S_canBe_181 (by decide) rfl (fun h181 => ?_) (fun h181 => absurd h181 (by decide))
        refine j_aload_n (i := 0) (t := 198) C d_S_canBe_197 rfl rfl (by first | exact jrv_r | exact jrv_n | exact jrv_f) rfl ?_
        refine j_aload_n (i := 0) (t := 199) C d_S_canBe_198 rfl rfl (by first | exact jrv_r | exact jrv_n | exact jrv_f) rfl ?_
        refine j_get (t := 202) C fl_S_19 d_S_canBe_199 (by assumption) (by first | rfl | assumption) rfl ?_
        refine j_callSN (As := [_]) (t := 205) C (c_T_contrary _ _) d_S_canBe_202 jb_T_contrary ml_S_83 st_T_contrary rfl (Nat.le_of_ble_eq_true rfl) (by decide) (by omega) (by omega) (rfl) rfl (fun r202 w202 p202 => ?_)
        obtain ⟨rfl, rfl⟩ := p202
        dsimp only [jst]
        refine j_callV (As := [_]) (t := 208) C (c_S_canCompare_lit _ a ca _ (cO op) lo hi ec ef al f2 p (lit p)) d_S_canBe_205 jb_S_canCompare ml_S_86 jv_S_canCompare (by assumption) rfl rfl rfl (Nat.le_of_ble_eq_true rfl) (by decide) (by omega) (by omega) (⟨rfl, by assumption, rfl, hkk, rfl, rfl, rfl, hal, by omega, hlt p (Nat.le_refl _) (by omega)⟩) rfl (fun r205 w205 p205 => ?_)
        obtain ⟨rfl, rfl⟩ := p205
        dsimp only [jst]
        refine j_aload_n (i := 0) (t := 209) C d_S_canBe_208 rfl rfl (by first | exact jrv_r | exact jrv_n | exact jrv_f) rfl ?_
        refine j_aload_n (i := 0) (t := 210) C d_S_canBe_209 rfl rfl (by first | exact jrv_r | exact jrv_n | exact jrv_f) rfl ?_
        refine j_get (t := 213) C fl_S_19 d_S_canBe_210 (by assumption) (by first | rfl | assumption) rfl ?_
        refine j_callV (As := [_]) (t := 216) C (c_S_canCompare_lit _ a ca _ (op) lo hi ec ef al f2 p (lit p)) d_S_canBe_213 jb_S_canCompare ml_S_86 jv_S_canCompare (by assumption) rfl rfl rfl (Nat.le_of_ble_eq_true rfl) (by decide) (by omega) (by omega) (⟨rfl, by assumption, rfl, hkk, rfl, rfl, rfl, hal, by omega, hlt p (Nat.le_refl _) (by omega)⟩) rfl (fun r213 w213 p213 => ?_)
        obtain ⟨rfl, rfl⟩ := p213
        dsimp only [jst]
        refine j_iload_n (i := 2) (t := 217) C d_S_canBe_216 rfl rfl rfl ?_
        refine j_callSN (As := [_, _, _]) (t := 220) C (c_T_truthSet _ (cmL (cO op) lo hi ec ef (lit p)) (cmL op lo hi ec ef (lit p)) (u)) d_S_canBe_217 jb_T_truthSet ml_S_62 st_T_truthSet rfl (Nat.le_of_ble_eq_true rfl) (by decide) (by omega) (by omega) (rfl) rfl (fun r217 w217 p217 => ?_)
        obtain ⟨rfl, rfl⟩ := p217
        dsimp only [jst]
        exact j_iret C d_S_canBe_220 rfl (⟨rfl, by rw [hu, h149]; rfl⟩) (by omega) (by omega)
    refine j_aload_n (i := 0) (t := 1) C d_S_canBe_0 rfl rfl (by first | exact jrv_r | exact jrv_n | exact jrv_f) rfl ?_
    refine j_get (t := 4) C fl_S_9 d_S_canBe_1 (by assumption) (by first | rfl | assumption) rfl ?_
    refine j_if_eq (tgt := 15) (t := 7) C d_S_canBe_4 (by decide) rfl (fun h4 => absurd h4 (by decide)) (fun h4 => ?_)
    refine j_aload_n (i := 0) (t := 8) C d_S_canBe_7 rfl rfl (by first | exact jrv_r | exact jrv_n | exact jrv_f) rfl ?_
    refine j_get (t := 11) C fl_S_9 d_S_canBe_8 (by assumption) (by first | rfl | assumption) rfl ?_
    refine j_iconst (x := 1) (t := 12) C d_S_canBe_11 rfl rfl ?_
    refine j_icmp_ne (tgt := 19) (t := 15) C d_S_canBe_12 (by decide) rfl (fun h12 => ?_) (fun h12 => absurd h12 (by decide))
    refine j_iconst (x := 0) (t := 20) C d_S_canBe_19 rfl rfl ?_
    refine j_istore_n (i := 1) (t := 21) (lv' := [(0, _), (1, _)]) C d_S_canBe_20 rfl (by decide) (by decide) rfl rfl ?_
    refine j_aload_n (i := 0) (t := 22) C d_S_canBe_21 rfl rfl (by first | exact jrv_r | exact jrv_n | exact jrv_f) rfl ?_
    refine j_get (t := 25) C fl_S_15 d_S_canBe_22 (by assumption) (by first | rfl | assumption) rfl ?_
    refine j_ifnull (tgt := 55) (t := 28) C d_S_canBe_25 (by decide) rfl (fun h25 => absurd h25 (by simp)) (fun a25 h25 => ?_)
    refine j_aload_n (i := 0) (t := 29) C d_S_canBe_28 rfl rfl (by first | exact jrv_r | exact jrv_n | exact jrv_f) rfl ?_
    refine j_get (t := 32) C fl_S_15 d_S_canBe_29 (by assumption) (by first | rfl | assumption) rfl ?_
    refine j_get (t := 35) C fl_S_58 d_S_canBe_32 (by assumption) (by first | rfl | assumption) rfl ?_
    refine j_if_eq (tgt := 55) (t := 38) C d_S_canBe_35 (by decide) rfl (fun h35 => absurd h35 (by decide)) (fun h35 => ?_)
    refine j_aload_n (i := 0) (t := 39) C d_S_canBe_38 rfl rfl (by first | exact jrv_r | exact jrv_n | exact jrv_f) rfl ?_
    refine j_get (t := 42) C fl_S_22 d_S_canBe_39 (by assumption) (by first | rfl | assumption) rfl ?_
    refine j_ifnull (tgt := 70) (t := 45) C d_S_canBe_42 (by decide) rfl (fun h42 => ?_) (fun a42 h42 => absurd h42 (by simp))
    refine j_iload_n (i := 1) (t := 71) C d_S_canBe_70 rfl rfl rfl ?_
    refine j_if_eq (tgt := 109) (t := 74) C d_S_canBe_71 (by decide) rfl (fun h71 => ?_) (fun h71 => absurd h71 (by decide))
    refine j_aload_n (i := 0) (t := 110) C d_S_canBe_109 rfl rfl (by first | exact jrv_r | exact jrv_n | exact jrv_f) rfl ?_
    refine j_get (t := 113) C fl_S_15 d_S_canBe_110 (by assumption) (by first | rfl | assumption) rfl ?_
    refine j_callV (As := []) (t := 116) C (c_C_mayMiss _ ca _ km) d_S_canBe_113 jb_C_mayMiss ml_S_70 jv_C_mayMiss (by assumption) rfl rfl rfl (Nat.le_of_ble_eq_true rfl) (by decide) (by omega) (by omega) (⟨rfl, by assumption, rfl⟩) rfl (fun r113 w113 p113 => ?_)
    obtain ⟨rfl, rfl⟩ := p113
    dsimp only [jst]
    refine j_if_ne (tgt := 136) (t := 119) C d_S_canBe_116 (by decide) rfl (fun h116 => ?_) (fun h116 => ?_)
    · refine j_iconst (x := 1) (t := 137) C d_S_canBe_136 rfl rfl ?_
      refine j_goto (tgt := 141) C d_S_canBe_137 (by decide) ?_
      refine j_istore_n (i := 2) (t := 142) (lv' := [(0, _), (1, _), (2, _)]) C d_S_canBe_141 rfl (by decide) (by decide) rfl rfl ?_
      first | exact tail true (by clear tail; simp only [bI_0, Bool.not_eq_false] at *; simp_all) | exact tail false (by clear tail; simp only [bI_0, Bool.not_eq_false] at *; simp_all)
    · refine j_aload_n (i := 0) (t := 120) C d_S_canBe_119 rfl rfl (by first | exact jrv_r | exact jrv_n | exact jrv_f) rfl ?_
      refine j_get (t := 123) C fl_S_22 d_S_canBe_120 (by assumption) (by first | rfl | assumption) rfl ?_
      refine j_ifnull (tgt := 140) (t := 126) C d_S_canBe_123 (by decide) rfl (fun h123 => ?_) (fun a123 h123 => absurd h123 (by simp))
      refine j_iconst (x := 0) (t := 141) C d_S_canBe_140 rfl rfl ?_
      refine j_istore_n (i := 2) (t := 142) (lv' := [(0, _), (1, _), (2, _)]) C d_S_canBe_141 rfl (by decide) (by decide) rfl rfl ?_
      first | exact tail true (by clear tail; simp only [bI_0, Bool.not_eq_false] at *; simp_all) | exact tail false (by clear tail; simp only [bI_0, Bool.not_eq_false] at *; simp_all)

set_option maxHeartbeats 4000000 in
set_option maxRecDepth 100000 in
/-- canBe, kind 4 -/
theorem c_S_canBe_4 (l : Launch) (a ca : Nat) (op : Int32) (oth : Option Nat) (al : Nat) (fi mn : Int32) (kn : Bool) (kr km : Int32) (lo hi : jv) (ec : Nat) (ef : Nat → jv) (cb : Nat) (kn2 : Bool) (kr2 km2 : Int32) (lo2 hi2 : jv) (ec2 : Nat) (ef2 : Nat → jv) : MC l y_S_canBe b_S_canBe 3 (some .int) 4 0 0
    (fun G w av => av = [.ref a] ∧ jh w a (eO cS [.int 4, va_rf (some ca), .int op, va_rf oth, .ref al, .int fi, .int mn]) ∧ isM G w ca kn kr km lo hi ec ef ∧ oth = some cb ∧ isM G w cb kn2 kr2 km2 lo2 hi2 ec2 ef2)
    (fun G w av r w' => w' = w ∧ r = some (.int (bif kn && kn2 then (bif decide (km < kr) && decide (km2 < kr2) then trS (cH (cO op) lo hi lo2 hi2) (cH op lo hi lo2 hi2) (decide (0 < km) || decide (0 < km2)) else trS false false (decide (0 < km) || decide (0 < km2))) else 7))) := by
  refine MC.of 99 (by decide) ?_
  intro X w av hl C hnm hp
  obtain ⟨rfl, ha, ⟨ty, ra, rc, tb, lA, hA, ea, eI1, sa, hca, hM⟩, rfl, ty2, ra2, rc2, tb2, lA2, hA2, ea2, eI2, sa2, hcb, hM2⟩ := hp
  refine ⟨[(0, _)], rfl, Nat.le_of_ble_eq_true rfl, rfl, ?_⟩
  cases kn with
  | false =>
    refine j_aload_n (i := 0) (t := 1) C d_S_canBe_0 rfl rfl (by first | exact jrv_r | exact jrv_n | exact jrv_f) rfl ?_
    refine j_get (t := 4) C fl_S_9 d_S_canBe_1 (by assumption) (by first | rfl | assumption) rfl ?_
    refine j_if_eq (tgt := 15) (t := 7) C d_S_canBe_4 (by decide) rfl (fun h4 => absurd h4 (by decide)) (fun h4 => ?_)
    refine j_aload_n (i := 0) (t := 8) C d_S_canBe_7 rfl rfl (by first | exact jrv_r | exact jrv_n | exact jrv_f) rfl ?_
    refine j_get (t := 11) C fl_S_9 d_S_canBe_8 (by assumption) (by first | rfl | assumption) rfl ?_
    refine j_iconst (x := 1) (t := 12) C d_S_canBe_11 rfl rfl ?_
    refine j_icmp_ne (tgt := 19) (t := 15) C d_S_canBe_12 (by decide) rfl (fun h12 => ?_) (fun h12 => absurd h12 (by decide))
    refine j_iconst (x := 0) (t := 20) C d_S_canBe_19 rfl rfl ?_
    refine j_istore_n (i := 1) (t := 21) (lv' := [(0, _), (1, _)]) C d_S_canBe_20 rfl (by decide) (by decide) rfl rfl ?_
    refine j_aload_n (i := 0) (t := 22) C d_S_canBe_21 rfl rfl (by first | exact jrv_r | exact jrv_n | exact jrv_f) rfl ?_
    refine j_get (t := 25) C fl_S_15 d_S_canBe_22 (by assumption) (by first | rfl | assumption) rfl ?_
    refine j_ifnull (tgt := 55) (t := 28) C d_S_canBe_25 (by decide) rfl (fun h25 => absurd h25 (by simp)) (fun a25 h25 => ?_)
    refine j_aload_n (i := 0) (t := 29) C d_S_canBe_28 rfl rfl (by first | exact jrv_r | exact jrv_n | exact jrv_f) rfl ?_
    refine j_get (t := 32) C fl_S_15 d_S_canBe_29 (by assumption) (by first | rfl | assumption) rfl ?_
    refine j_get (t := 35) C fl_S_58 d_S_canBe_32 (by assumption) (by first | rfl | assumption) rfl ?_
    refine j_if_eq (tgt := 55) (t := 38) C d_S_canBe_35 (by decide) rfl (fun h35 => ?_) (fun h35 => absurd h35 (by decide))
    refine j_iconst (x := 1) (t := 56) C d_S_canBe_55 rfl rfl ?_
    refine j_iconst (x := 1) (t := 57) C d_S_canBe_56 rfl rfl ?_
    refine j_iload_n (i := 1) (t := 58) C d_S_canBe_57 rfl rfl rfl ?_
    refine j_if_ne (tgt := 65) (t := 61) C d_S_canBe_58 (by decide) rfl (fun h58 => absurd h58 (by decide)) (fun h58 => ?_)
    refine j_iconst (x := 1) (t := 62) C d_S_canBe_61 rfl rfl ?_
    refine j_goto (tgt := 66) C d_S_canBe_62 (by decide) ?_
    refine j_callSN (As := [_, _, _]) (t := 69) C (c_T_truthSet _ (true) (true) (true)) d_S_canBe_66 jb_T_truthSet ml_S_62 st_T_truthSet rfl (Nat.le_of_ble_eq_true rfl) (by decide) (by omega) (by omega) (rfl) rfl (fun r66 w66 p66 => ?_)
    obtain ⟨rfl, rfl⟩ := p66
    dsimp only [jst]
    exact j_iret C d_S_canBe_69 rfl (⟨rfl, rfl⟩) (by omega) (by omega)
  | true =>
    cases kn2 with
    | false =>
      refine j_aload_n (i := 0) (t := 1) C d_S_canBe_0 rfl rfl (by first | exact jrv_r | exact jrv_n | exact jrv_f) rfl ?_
      refine j_get (t := 4) C fl_S_9 d_S_canBe_1 (by assumption) (by first | rfl | assumption) rfl ?_
      refine j_if_eq (tgt := 15) (t := 7) C d_S_canBe_4 (by decide) rfl (fun h4 => absurd h4 (by decide)) (fun h4 => ?_)
      refine j_aload_n (i := 0) (t := 8) C d_S_canBe_7 rfl rfl (by first | exact jrv_r | exact jrv_n | exact jrv_f) rfl ?_
      refine j_get (t := 11) C fl_S_9 d_S_canBe_8 (by assumption) (by first | rfl | assumption) rfl ?_
      refine j_iconst (x := 1) (t := 12) C d_S_canBe_11 rfl rfl ?_
      refine j_icmp_ne (tgt := 19) (t := 15) C d_S_canBe_12 (by decide) rfl (fun h12 => ?_) (fun h12 => absurd h12 (by decide))
      refine j_iconst (x := 0) (t := 20) C d_S_canBe_19 rfl rfl ?_
      refine j_istore_n (i := 1) (t := 21) (lv' := [(0, _), (1, _)]) C d_S_canBe_20 rfl (by decide) (by decide) rfl rfl ?_
      refine j_aload_n (i := 0) (t := 22) C d_S_canBe_21 rfl rfl (by first | exact jrv_r | exact jrv_n | exact jrv_f) rfl ?_
      refine j_get (t := 25) C fl_S_15 d_S_canBe_22 (by assumption) (by first | rfl | assumption) rfl ?_
      refine j_ifnull (tgt := 55) (t := 28) C d_S_canBe_25 (by decide) rfl (fun h25 => absurd h25 (by simp)) (fun a25 h25 => ?_)
      refine j_aload_n (i := 0) (t := 29) C d_S_canBe_28 rfl rfl (by first | exact jrv_r | exact jrv_n | exact jrv_f) rfl ?_
      refine j_get (t := 32) C fl_S_15 d_S_canBe_29 (by assumption) (by first | rfl | assumption) rfl ?_
      refine j_get (t := 35) C fl_S_58 d_S_canBe_32 (by assumption) (by first | rfl | assumption) rfl ?_
      refine j_if_eq (tgt := 55) (t := 38) C d_S_canBe_35 (by decide) rfl (fun h35 => absurd h35 (by decide)) (fun h35 => ?_)
      refine j_aload_n (i := 0) (t := 39) C d_S_canBe_38 rfl rfl (by first | exact jrv_r | exact jrv_n | exact jrv_f) rfl ?_
      refine j_get (t := 42) C fl_S_22 d_S_canBe_39 (by assumption) (by first | rfl | assumption) rfl ?_
      refine j_ifnull (tgt := 70) (t := 45) C d_S_canBe_42 (by decide) rfl (fun h42 => absurd h42 (by simp)) (fun a42 h42 => ?_)
      refine j_aload_n (i := 0) (t := 46) C d_S_canBe_45 rfl rfl (by first | exact jrv_r | exact jrv_n | exact jrv_f) rfl ?_
      refine j_get (t := 49) C fl_S_22 d_S_canBe_46 (by assumption) (by first | rfl | assumption) rfl ?_
      refine j_get (t := 52) C fl_S_58 d_S_canBe_49 (by assumption) (by first | rfl | assumption) rfl ?_
      refine j_if_ne (tgt := 70) (t := 55) C d_S_canBe_52 (by decide) rfl (fun h52 => absurd h52 (by decide)) (fun h52 => ?_)
      refine j_iconst (x := 1) (t := 56) C d_S_canBe_55 rfl rfl ?_
      refine j_iconst (x := 1) (t := 57) C d_S_canBe_56 rfl rfl ?_
      refine j_iload_n (i := 1) (t := 58) C d_S_canBe_57 rfl rfl rfl ?_
      refine j_if_ne (tgt := 65) (t := 61) C d_S_canBe_58 (by decide) rfl (fun h58 => absurd h58 (by decide)) (fun h58 => ?_)
      refine j_iconst (x := 1) (t := 62) C d_S_canBe_61 rfl rfl ?_
      refine j_goto (tgt := 66) C d_S_canBe_62 (by decide) ?_
      refine j_callSN (As := [_, _, _]) (t := 69) C (c_T_truthSet _ (true) (true) (true)) d_S_canBe_66 jb_T_truthSet ml_S_62 st_T_truthSet rfl (Nat.le_of_ble_eq_true rfl) (by decide) (by omega) (by omega) (rfl) rfl (fun r66 w66 p66 => ?_)
      obtain ⟨rfl, rfl⟩ := p66
      dsimp only [jst]
      exact j_iret C d_S_canBe_69 rfl (⟨rfl, rfl⟩) (by omega) (by omega)
    | true =>
      have hsm : (decide (km < kr) && lA.isSome && hA.isSome) = decide (km < kr) := isM_sm (fun q => ⟨(hM rfl q).1, (hM rfl q).2.1⟩)
      have hsm2 : (decide (km2 < kr2) && lA2.isSome && hA2.isSome) = decide (km2 < kr2) := isM_sm (fun q => ⟨(hM2 rfl q).1, (hM2 rfl q).2.1⟩)
      have tail : ∀ u : Bool, u = (decide (0 < km) || decide (0 < km2)) → J X (3, 99) (jQ X (fun r w' => w' = w ∧ r = some (.int (bif true && true then (bif decide (km < kr) && decide (km2 < kr2) then trS (cH (cO op) lo hi lo2 hi2) (cH op lo hi lo2 hi2) (decide (0 < km) || decide (0 < km2)) else trS false false (decide (0 < km) || decide (0 < km2))) else 7))) 0 0) w 0 0 142 [(0, .ref a), (1, .int 0), (2, .int (bI u))] [] := by
        intro u hu
        refine j_aload_n (i := 0) (t := 143) C d_S_canBe_142 rfl rfl (by first | exact jrv_r | exact jrv_n | exact jrv_f) rfl ?_
        refine j_get (t := 146) C fl_S_15 d_S_canBe_143 (by assumption) (by first | rfl | assumption) rfl ?_
        refine j_callV (As := []) (t := 149) C (c_C_mayHaveValues _ ca _ kr km lA hA) d_S_canBe_146 jb_C_mayHaveValues ml_S_66 jv_C_mayHaveValues (by assumption) rfl rfl rfl (Nat.le_of_ble_eq_true rfl) (by decide) (by omega) (by omega) (⟨rfl, by assumption, rfl, rfl, rfl, rfl⟩) rfl (fun r146 w146 p146 => ?_)
        obtain ⟨rfl, rfl⟩ := p146
        dsimp only [jst]
        rw [hsm]
        refine j_if_eq (tgt := 169) (t := 152) C d_S_canBe_149 (by decide) rfl (fun h149 => ?_) (fun h149 => ?_)
        · refine j_iconst (x := 0) (t := 170) C d_S_canBe_169 rfl rfl ?_
          refine j_iconst (x := 0) (t := 171) C d_S_canBe_170 rfl rfl ?_
          refine j_iload_n (i := 2) (t := 172) C d_S_canBe_171 rfl rfl rfl ?_
          refine j_callSN (As := [_, _, _]) (t := 175) C (c_T_truthSet _ (false) (false) (u)) d_S_canBe_172 jb_T_truthSet ml_S_62 st_T_truthSet rfl (Nat.le_of_ble_eq_true rfl) (by decide) (by omega) (by omega) (rfl) rfl (fun r172 w172 p172 => ?_)
          obtain ⟨rfl, rfl⟩ := p172
          dsimp only [jst]
          exact j_iret C d_S_canBe_175 rfl (⟨rfl, by rw [hu]; first | (rw [bI_0] at h149; rw [h149]; rfl) | (rw [bI_0, Bool.not_eq_false] at h149; rw [bI_0] at h166; rw [h149, h166]; rfl)⟩) (by omega) (by omega)
        · refine j_aload_n (i := 0) (t := 153) C d_S_canBe_152 rfl rfl (by first | exact jrv_r | exact jrv_n | exact jrv_f) rfl ?_
          refine j_get (t := 156) C fl_S_22 d_S_canBe_153 (by assumption) (by first | rfl | assumption) rfl ?_
          refine j_ifnull (tgt := 176) (t := 159) C d_S_canBe_156 (by decide) rfl (fun h156 => absurd h156 (by simp)) (fun a156 h156 => ?_)
          refine j_aload_n (i := 0) (t := 160) C d_S_canBe_159 rfl rfl (by first | exact jrv_r | exact jrv_n | exact jrv_f) rfl ?_
          refine j_get (t := 163) C fl_S_22 d_S_canBe_160 (by assumption) (by first | rfl | assumption) rfl ?_
          refine j_callV (As := []) (t := 166) C (c_C_mayHaveValues _ cb _ kr2 km2 lA2 hA2) d_S_canBe_163 jb_C_mayHaveValues ml_S_66 jv_C_mayHaveValues (by assumption) rfl rfl rfl (Nat.le_of_ble_eq_true rfl) (by decide) (by omega) (by omega) (⟨rfl, by assumption, rfl, rfl, rfl, rfl⟩) rfl (fun r163 w163 p163 => ?_)
          obtain ⟨rfl, rfl⟩ := p163
          dsimp only [jst]
          rw [hsm2]
          refine j_if_ne (tgt := 176) (t := 169) C d_S_canBe_166 (by decide) rfl (fun h166 => ?_) (fun h166 => ?_)
          · rw [bI_0, Bool.not_eq_false] at h149
            have hkk := (hM rfl (of_decide_eq_true h149)).2.2
            rw [bI_0, Bool.not_eq_false] at h166
            have hkk2 := (hM2 rfl (of_decide_eq_true h166)).2.2
            refine j_aload_n (i := 0) (t := 177) C d_S_canBe_176 rfl rfl (by first | exact jrv_r | exact jrv_n | exact jrv_f) rfl ?_
            refine j_get (t := 180) C fl_S_9 d_S_canBe_177 (by assumption) (by first | rfl | assumption) rfl ?_
            refine j_iconst (x := 2) (t := 181) C d_S_canBe_180 rfl rfl ?_
            refine j_icmp_ne (tgt := 197) (t := 184) C d_S_canBe_181 (by decide) rfl (fun h181 => ?_) (fun h181 => absurd h181 (by decide))
            refine j_aload_n (i := 0) (t := 198) C d_S_canBe_197 rfl rfl (by first | exact jrv_r | exact jrv_n | exact jrv_f) rfl ?_
            refine j_aload_n (i := 0) (t := 199) C d_S_canBe_198 rfl rfl (by first | exact jrv_r | exact jrv_n | exact jrv_f) rfl ?_
            refine j_get (t := 202) C fl_S_19 d_S_canBe_199 (by assumption) (by first | rfl | assumption) rfl ?_
            refine j_callSN (As := [_]) (t := 205) C (c_T_contrary _ _) d_S_canBe_202 jb_T_contrary ml_S_83 st_T_contrary rfl (Nat.le_of_ble_eq_true rfl) (by decide) (by omega) (by omega) (rfl) rfl (fun r202 w202 p202 => ?_)
            obtain ⟨rfl, rfl⟩ := p202
            dsimp only [jst]
            refine j_callV (As := [_]) (t := 208) C (c_S_canCompare_col _ a ca cb _ (cO op) lo hi lo2 hi2 ec ec2 ef ef2) d_S_canBe_205 jb_S_canCompare ml_S_86 jv_S_canCompare (by assumption) rfl rfl rfl (Nat.le_of_ble_eq_true rfl) (by decide) (by omega) (by omega) (⟨rfl, by assumption, rfl, hkk, rfl, hkk2⟩) rfl (fun r205 w205 p205 => ?_)
            obtain ⟨rfl, rfl⟩ := p205
            dsimp only [jst]
            refine j_aload_n (i := 0) (t := 209) C d_S_canBe_208 rfl rfl (by first | exact jrv_r | exact jrv_n | exact jrv_f) rfl ?_
            refine j_aload_n (i := 0) (t := 210) C d_S_canBe_209 rfl rfl (by first | exact jrv_r | exact jrv_n | exact jrv_f) rfl ?_
            refine j_get (t := 213) C fl_S_19 d_S_canBe_210 (by assumption) (by first | rfl | assumption) rfl ?_
            refine j_callV (As := [_]) (t := 216) C (c_S_canCompare_col _ a ca cb _ (op) lo hi lo2 hi2 ec ec2 ef ef2) d_S_canBe_213 jb_S_canCompare ml_S_86 jv_S_canCompare (by assumption) rfl rfl rfl (Nat.le_of_ble_eq_true rfl) (by decide) (by omega) (by omega) (⟨rfl, by assumption, rfl, hkk, rfl, hkk2⟩) rfl (fun r213 w213 p213 => ?_)
            obtain ⟨rfl, rfl⟩ := p213
            dsimp only [jst]
            refine j_iload_n (i := 2) (t := 217) C d_S_canBe_216 rfl rfl rfl ?_
            refine j_callSN (As := [_, _, _]) (t := 220) C (c_T_truthSet _ (cH (cO op) lo hi lo2 hi2) (cH op lo hi lo2 hi2) (u)) d_S_canBe_217 jb_T_truthSet ml_S_62 st_T_truthSet rfl (Nat.le_of_ble_eq_true rfl) (by decide) (by omega) (by omega) (rfl) rfl (fun r217 w217 p217 => ?_)
            obtain ⟨rfl, rfl⟩ := p217
            dsimp only [jst]
            exact j_iret C d_S_canBe_220 rfl (⟨rfl, by rw [hu, h149, h166]; rfl⟩) (by omega) (by omega)
          · refine j_iconst (x := 0) (t := 170) C d_S_canBe_169 rfl rfl ?_
            refine j_iconst (x := 0) (t := 171) C d_S_canBe_170 rfl rfl ?_
            refine j_iload_n (i := 2) (t := 172) C d_S_canBe_171 rfl rfl rfl ?_
            refine j_callSN (As := [_, _, _]) (t := 175) C (c_T_truthSet _ (false) (false) (u)) d_S_canBe_172 jb_T_truthSet ml_S_62 st_T_truthSet rfl (Nat.le_of_ble_eq_true rfl) (by decide) (by omega) (by omega) (rfl) rfl (fun r172 w172 p172 => ?_)
            obtain ⟨rfl, rfl⟩ := p172
            dsimp only [jst]
            exact j_iret C d_S_canBe_175 rfl (⟨rfl, by rw [hu]; first | (rw [bI_0] at h149; rw [h149]; rfl) | (rw [bI_0, Bool.not_eq_false] at h149; rw [bI_0] at h166; rw [h149, h166]; rfl)⟩) (by omega) (by omega)
      refine j_aload_n (i := 0) (t := 1) C d_S_canBe_0 rfl rfl (by first | exact jrv_r | exact jrv_n | exact jrv_f) rfl ?_
      refine j_get (t := 4) C fl_S_9 d_S_canBe_1 (by assumption) (by first | rfl | assumption) rfl ?_
      refine j_if_eq (tgt := 15) (t := 7) C d_S_canBe_4 (by decide) rfl (fun h4 => absurd h4 (by decide)) (fun h4 => ?_)
      refine j_aload_n (i := 0) (t := 8) C d_S_canBe_7 rfl rfl (by first | exact jrv_r | exact jrv_n | exact jrv_f) rfl ?_
      refine j_get (t := 11) C fl_S_9 d_S_canBe_8 (by assumption) (by first | rfl | assumption) rfl ?_
      refine j_iconst (x := 1) (t := 12) C d_S_canBe_11 rfl rfl ?_
      refine j_icmp_ne (tgt := 19) (t := 15) C d_S_canBe_12 (by decide) rfl (fun h12 => ?_) (fun h12 => absurd h12 (by decide))
      refine j_iconst (x := 0) (t := 20) C d_S_canBe_19 rfl rfl ?_
      refine j_istore_n (i := 1) (t := 21) (lv' := [(0, _), (1, _)]) C d_S_canBe_20 rfl (by decide) (by decide) rfl rfl ?_
      refine j_aload_n (i := 0) (t := 22) C d_S_canBe_21 rfl rfl (by first | exact jrv_r | exact jrv_n | exact jrv_f) rfl ?_
      refine j_get (t := 25) C fl_S_15 d_S_canBe_22 (by assumption) (by first | rfl | assumption) rfl ?_
      refine j_ifnull (tgt := 55) (t := 28) C d_S_canBe_25 (by decide) rfl (fun h25 => absurd h25 (by simp)) (fun a25 h25 => ?_)
      refine j_aload_n (i := 0) (t := 29) C d_S_canBe_28 rfl rfl (by first | exact jrv_r | exact jrv_n | exact jrv_f) rfl ?_
      refine j_get (t := 32) C fl_S_15 d_S_canBe_29 (by assumption) (by first | rfl | assumption) rfl ?_
      refine j_get (t := 35) C fl_S_58 d_S_canBe_32 (by assumption) (by first | rfl | assumption) rfl ?_
      refine j_if_eq (tgt := 55) (t := 38) C d_S_canBe_35 (by decide) rfl (fun h35 => absurd h35 (by decide)) (fun h35 => ?_)
      refine j_aload_n (i := 0) (t := 39) C d_S_canBe_38 rfl rfl (by first | exact jrv_r | exact jrv_n | exact jrv_f) rfl ?_
      refine j_get (t := 42) C fl_S_22 d_S_canBe_39 (by assumption) (by first | rfl | assumption) rfl ?_
      refine j_ifnull (tgt := 70) (t := 45) C d_S_canBe_42 (by decide) rfl (fun h42 => absurd h42 (by simp)) (fun a42 h42 => ?_)
      refine j_aload_n (i := 0) (t := 46) C d_S_canBe_45 rfl rfl (by first | exact jrv_r | exact jrv_n | exact jrv_f) rfl ?_
      refine j_get (t := 49) C fl_S_22 d_S_canBe_46 (by assumption) (by first | rfl | assumption) rfl ?_
      refine j_get (t := 52) C fl_S_58 d_S_canBe_49 (by assumption) (by first | rfl | assumption) rfl ?_
      refine j_if_ne (tgt := 70) (t := 55) C d_S_canBe_52 (by decide) rfl (fun h52 => ?_) (fun h52 => absurd h52 (by decide))
      refine j_iload_n (i := 1) (t := 71) C d_S_canBe_70 rfl rfl rfl ?_
      refine j_if_eq (tgt := 109) (t := 74) C d_S_canBe_71 (by decide) rfl (fun h71 => ?_) (fun h71 => absurd h71 (by decide))
      refine j_aload_n (i := 0) (t := 110) C d_S_canBe_109 rfl rfl (by first | exact jrv_r | exact jrv_n | exact jrv_f) rfl ?_
      refine j_get (t := 113) C fl_S_15 d_S_canBe_110 (by assumption) (by first | rfl | assumption) rfl ?_
      refine j_callV (As := []) (t := 116) C (c_C_mayMiss _ ca _ km) d_S_canBe_113 jb_C_mayMiss ml_S_70 jv_C_mayMiss (by assumption) rfl rfl rfl (Nat.le_of_ble_eq_true rfl) (by decide) (by omega) (by omega) (⟨rfl, by assumption, rfl⟩) rfl (fun r113 w113 p113 => ?_)
      obtain ⟨rfl, rfl⟩ := p113
      dsimp only [jst]
      refine j_if_ne (tgt := 136) (t := 119) C d_S_canBe_116 (by decide) rfl (fun h116 => ?_) (fun h116 => ?_)
      · refine j_iconst (x := 1) (t := 137) C d_S_canBe_136 rfl rfl ?_
        refine j_goto (tgt := 141) C d_S_canBe_137 (by decide) ?_
        refine j_istore_n (i := 2) (t := 142) (lv' := [(0, _), (1, _), (2, _)]) C d_S_canBe_141 rfl (by decide) (by decide) rfl rfl ?_
        first | exact tail true (by clear tail; simp only [bI_0, Bool.not_eq_false] at *; simp_all) | exact tail false (by clear tail; simp only [bI_0, Bool.not_eq_false] at *; simp_all)
      · refine j_aload_n (i := 0) (t := 120) C d_S_canBe_119 rfl rfl (by first | exact jrv_r | exact jrv_n | exact jrv_f) rfl ?_
        refine j_get (t := 123) C fl_S_22 d_S_canBe_120 (by assumption) (by first | rfl | assumption) rfl ?_
        refine j_ifnull (tgt := 140) (t := 126) C d_S_canBe_123 (by decide) rfl (fun h123 => absurd h123 (by simp)) (fun a123 h123 => ?_)
        refine j_aload_n (i := 0) (t := 127) C d_S_canBe_126 rfl rfl (by first | exact jrv_r | exact jrv_n | exact jrv_f) rfl ?_
        refine j_get (t := 130) C fl_S_22 d_S_canBe_127 (by assumption) (by first | rfl | assumption) rfl ?_
        refine j_callV (As := []) (t := 133) C (c_C_mayMiss _ cb _ km2) d_S_canBe_130 jb_C_mayMiss ml_S_70 jv_C_mayMiss (by assumption) rfl rfl rfl (Nat.le_of_ble_eq_true rfl) (by decide) (by omega) (by omega) (⟨rfl, by assumption, rfl⟩) rfl (fun r130 w130 p130 => ?_)
        obtain ⟨rfl, rfl⟩ := p130
        dsimp only [jst]
        refine j_if_eq (tgt := 140) (t := 136) C d_S_canBe_133 (by decide) rfl (fun h133 => ?_) (fun h133 => ?_)
        · refine j_iconst (x := 0) (t := 141) C d_S_canBe_140 rfl rfl ?_
          refine j_istore_n (i := 2) (t := 142) (lv' := [(0, _), (1, _), (2, _)]) C d_S_canBe_141 rfl (by decide) (by decide) rfl rfl ?_
          first | exact tail true (by clear tail; simp only [bI_0, Bool.not_eq_false] at *; simp_all) | exact tail false (by clear tail; simp only [bI_0, Bool.not_eq_false] at *; simp_all)
        · refine j_iconst (x := 1) (t := 137) C d_S_canBe_136 rfl rfl ?_
          refine j_goto (tgt := 141) C d_S_canBe_137 (by decide) ?_
          refine j_istore_n (i := 2) (t := 142) (lv' := [(0, _), (1, _), (2, _)]) C d_S_canBe_141 rfl (by decide) (by decide) rfl rfl ?_
          first | exact tail true (by clear tail; simp only [bI_0, Bool.not_eq_false] at *; simp_all) | exact tail false (by clear tail; simp only [bI_0, Bool.not_eq_false] at *; simp_all)
