set_option maxHeartbeats 4000000 in
set_option maxRecDepth 100000 in
/-- canHold -/
theorem c_T_canHold (l : Launch) (op : Int32) (a b c d : Nat) (lo hi lo2 hi2 : jv) : MC l y_T_canHold b_T_canHold 5 (some .boolean) 1 0 0
    (fun G w av => av = [.int op, .ref a, .ref b, .ref c, .ref d] ∧ isV G w a lo ∧ isV G w b hi ∧ isV G w c lo2 ∧ isV G w d hi2)
    (fun G w av r w' => w' = w ∧ r = some (.int (bI (cH op lo hi lo2 hi2)))) := by
  refine MC.of 99 (by decide) ?_
  intro X w av hl C hnm hp
  obtain ⟨rfl, va, vb, vc', vd⟩ := hp
  obtain ⟨ta, ha, -⟩ := id va
  obtain ⟨tb, hb, -⟩ := id vb
  obtain ⟨td, hd, -⟩ := id vd
  refine ⟨[(0, _), (1, _), (2, _), (3, _), (4, _)], rfl, Nat.le_of_ble_eq_true rfl, rfl, ?_⟩
  refine j_iload_n (i := 0) (t := 1) C d_T_canHold_0 rfl rfl rfl ?_
  by_cases c1_0 : op = 0
  · refine j_tableIn (tgt := 32) C d_T_canHold_1 (by rw [c1_0]; decide) (by rw [c1_0]; decide) (by rw [c1_0]; rfl) (by decide) ?_
    refine j_aload_n (i := 2) (t := 33) C d_T_canHold_32 rfl rfl (by first | exact jrv_r | exact jrv_n | exact jrv_f) rfl ?_
    refine j_aload_n (i := 3) (t := 34) C d_T_canHold_33 rfl rfl (by first | exact jrv_r | exact jrv_n | exact jrv_f) rfl ?_
    refine j_callV (As := [_]) (t := 37) C (c_V_order _ b c hi lo2) d_T_canHold_34 jb_V_order ml_T_188 jv_V_order (by assumption) rfl rfl rfl (Nat.le_of_ble_eq_true rfl) (by decide) (by omega) (by omega) (⟨rfl, vb, vc'⟩) rfl (fun r34 w34 p34 => ?_)
    obtain ⟨rfl, i34, rfl, s34⟩ := p34
    dsimp only [jst]
    refine j_if_lt (tgt := 53) (t := 40) C d_T_canHold_37 (by decide) rfl (fun h37 => ?_) (fun h37 => ?_)
    · refine j_iconst (x := 0) (t := 54) C d_T_canHold_53 rfl rfl ?_
      exact j_iret C d_T_canHold_54 rfl (⟨rfl, by first | simp_all [-Int32.not_lt, -Int32.not_le, -Int.not_lt, -Int.not_le, bI, cH, i_lt, z_lt, sg_ge s34, sg_ge s43] | simp_all [-Int32.not_lt, -Int32.not_le, -Int.not_lt, -Int.not_le, bI, cH, i_lt, z_lt, sg_ge s34]⟩) (by omega) (by omega)
    · refine j_aload (t := 42) C d_T_canHold_40 rfl (by first | exact jrv_r | exact jrv_n | exact jrv_f) rfl ?_
      refine j_aload_n (i := 1) (t := 43) C d_T_canHold_42 rfl rfl (by first | exact jrv_r | exact jrv_n | exact jrv_f) rfl ?_
      refine j_callV (As := [_]) (t := 46) C (c_V_order _ d a hi2 lo) d_T_canHold_43 jb_V_order ml_T_188 jv_V_order (by assumption) rfl rfl rfl (Nat.le_of_ble_eq_true rfl) (by decide) (by omega) (by omega) (⟨rfl, vd, va⟩) rfl (fun r43 w43 p43 => ?_)
      obtain ⟨rfl, i43, rfl, s43⟩ := p43
      dsimp only [jst]
      refine j_if_lt (tgt := 53) (t := 49) C d_T_canHold_46 (by decide) rfl (fun h46 => ?_) (fun h46 => ?_)
      · refine j_iconst (x := 0) (t := 54) C d_T_canHold_53 rfl rfl ?_
        exact j_iret C d_T_canHold_54 rfl (⟨rfl, by first | simp_all [-Int32.not_lt, -Int32.not_le, -Int.not_lt, -Int.not_le, bI, cH, i_lt, z_lt, sg_ge s34, sg_ge s43] | simp_all [-Int32.not_lt, -Int32.not_le, -Int.not_lt, -Int.not_le, bI, cH, i_lt, z_lt, sg_ge s34]⟩) (by omega) (by omega)
      · refine j_iconst (x := 1) (t := 50) C d_T_canHold_49 rfl rfl ?_
        refine j_goto (tgt := 54) C d_T_canHold_50 (by decide) ?_
        exact j_iret C d_T_canHold_54 rfl (⟨rfl, by first | simp_all [-Int32.not_lt, -Int32.not_le, -Int.not_lt, -Int.not_le, bI, cH, i_lt, z_lt, sg_ge s34, sg_ge s43] | simp_all [-Int32.not_lt, -Int32.not_le, -Int.not_lt, -Int.not_le, bI, cH, i_lt, z_lt, sg_ge s34]⟩) (by omega) (by omega)
  by_cases c1_1 : op = 1
  · refine j_tableIn (tgt := 55) C d_T_canHold_1 (by rw [c1_1]; decide) (by rw [c1_1]; decide) (by rw [c1_1]; rfl) (by decide) ?_
    refine j_aload_n (i := 1) (t := 56) C d_T_canHold_55 rfl rfl (by first | exact jrv_r | exact jrv_n | exact jrv_f) rfl ?_
    refine j_aload (t := 58) C d_T_canHold_56 rfl (by first | exact jrv_r | exact jrv_n | exact jrv_f) rfl ?_
    refine j_callV (As := [_]) (t := 61) C (c_V_order _ a d lo hi2) d_T_canHold_58 jb_V_order ml_T_188 jv_V_order (by assumption) rfl rfl rfl (Nat.le_of_ble_eq_true rfl) (by decide) (by omega) (by omega) (⟨rfl, va, vd⟩) rfl (fun r58 w58 p58 => ?_)
    obtain ⟨rfl, i58, rfl, s58⟩ := p58
    dsimp only [jst]
    refine j_if_ne (tgt := 72) (t := 64) C d_T_canHold_61 (by decide) rfl (fun h61 => ?_) (fun h61 => ?_)
    · refine j_iconst (x := 1) (t := 73) C d_T_canHold_72 rfl rfl ?_
      refine j_goto (tgt := 77) C d_T_canHold_73 (by decide) ?_
      exact j_iret C d_T_canHold_77 rfl (⟨rfl, by first | simp_all [bI, cH, s58.2, s66.2] | simp_all [bI, cH, s58.2]⟩) (by omega) (by omega)
    · refine j_aload_n (i := 2) (t := 65) C d_T_canHold_64 rfl rfl (by first | exact jrv_r | exact jrv_n | exact jrv_f) rfl ?_
      refine j_aload_n (i := 3) (t := 66) C d_T_canHold_65 rfl rfl (by first | exact jrv_r | exact jrv_n | exact jrv_f) rfl ?_
      refine j_callV (As := [_]) (t := 69) C (c_V_order _ b c hi lo2) d_T_canHold_66 jb_V_order ml_T_188 jv_V_order (by assumption) rfl rfl rfl (Nat.le_of_ble_eq_true rfl) (by decide) (by omega) (by omega) (⟨rfl, vb, vc'⟩) rfl (fun r66 w66 p66 => ?_)
      obtain ⟨rfl, i66, rfl, s66⟩ := p66
      dsimp only [jst]
      refine j_if_eq (tgt := 76) (t := 72) C d_T_canHold_69 (by decide) rfl (fun h69 => ?_) (fun h69 => ?_)
      · refine j_iconst (x := 0) (t := 77) C d_T_canHold_76 rfl rfl ?_
        exact j_iret C d_T_canHold_77 rfl (⟨rfl, by first | simp_all [bI, cH, s58.2, s66.2] | simp_all [bI, cH, s58.2]⟩) (by omega) (by omega)
      · refine j_iconst (x := 1) (t := 73) C d_T_canHold_72 rfl rfl ?_
        refine j_goto (tgt := 77) C d_T_canHold_73 (by decide) ?_
        exact j_iret C d_T_canHold_77 rfl (⟨rfl, by first | simp_all [bI, cH, s58.2, s66.2] | simp_all [bI, cH, s58.2]⟩) (by omega) (by omega)
  by_cases c1_2 : op = 2
  · refine j_tableIn (tgt := 78) C d_T_canHold_1 (by rw [c1_2]; decide) (by rw [c1_2]; decide) (by rw [c1_2]; rfl) (by decide) ?_
    refine j_iload_n (i := 0) (t := 79) C d_T_canHold_78 rfl rfl rfl ?_
    refine j_aload_n (i := 1) (t := 80) C d_T_canHold_79 rfl rfl (by first | exact jrv_r | exact jrv_n | exact jrv_f) rfl ?_
    refine j_aload (t := 82) C d_T_canHold_80 rfl (by first | exact jrv_r | exact jrv_n | exact jrv_f) rfl ?_
    refine j_callV (As := [_]) (t := 85) C (c_V_order _ a d lo hi2) d_T_canHold_82 jb_V_order ml_T_188 jv_V_order (by assumption) rfl rfl rfl (Nat.le_of_ble_eq_true rfl) (by decide) (by omega) (by omega) (⟨rfl, va, vd⟩) rfl (fun r82 w82 p82 => ?_)
    obtain ⟨rfl, i82, rfl, s82⟩ := p82
    dsimp only [jst]
    refine j_callS (As := [_, _]) (t := 88) C (c_T_holds _ _ _) d_T_canHold_85 jb_T_holds ml_T_191 st_T_holds rfl (Nat.le_of_ble_eq_true rfl) (by decide) (by omega) (by omega) (rfl) rfl (fun r85 w85 p85 => ?_)
    obtain ⟨rfl, rfl⟩ := p85
    dsimp only [jst]
    rw [hO_sg s82]
    exact j_iret C d_T_canHold_88 (by cases hV op (vc lo hi2) <;> rfl) (⟨rfl, by simp_all [cH]⟩) (by omega) (by omega)
  by_cases c1_3 : op = 3
  · refine j_tableIn (tgt := 78) C d_T_canHold_1 (by rw [c1_3]; decide) (by rw [c1_3]; decide) (by rw [c1_3]; rfl) (by decide) ?_
    refine j_iload_n (i := 0) (t := 79) C d_T_canHold_78 rfl rfl rfl ?_
    refine j_aload_n (i := 1) (t := 80) C d_T_canHold_79 rfl rfl (by first | exact jrv_r | exact jrv_n | exact jrv_f) rfl ?_
    refine j_aload (t := 82) C d_T_canHold_80 rfl (by first | exact jrv_r | exact jrv_n | exact jrv_f) rfl ?_
    refine j_callV (As := [_]) (t := 85) C (c_V_order _ a d lo hi2) d_T_canHold_82 jb_V_order ml_T_188 jv_V_order (by assumption) rfl rfl rfl (Nat.le_of_ble_eq_true rfl) (by decide) (by omega) (by omega) (⟨rfl, va, vd⟩) rfl (fun r82 w82 p82 => ?_)
    obtain ⟨rfl, i82, rfl, s82⟩ := p82
    dsimp only [jst]
    refine j_callS (As := [_, _]) (t := 88) C (c_T_holds _ _ _) d_T_canHold_85 jb_T_holds ml_T_191 st_T_holds rfl (Nat.le_of_ble_eq_true rfl) (by decide) (by omega) (by omega) (rfl) rfl (fun r85 w85 p85 => ?_)
    obtain ⟨rfl, rfl⟩ := p85
    dsimp only [jst]
    rw [hO_sg s82]
    exact j_iret C d_T_canHold_88 (by cases hV op (vc lo hi2) <;> rfl) (⟨rfl, by simp_all [cH]⟩) (by omega) (by omega)
  refine j_tableOut (tgt := 89) C d_T_canHold_1 (by have q0 := lv_neT c1_0 (a := 0) (by decide); have q1 := lv_neT c1_1 (a := 1) (by decide); have q2 := lv_neT c1_2 (a := 2) (by decide); have q3 := lv_neT c1_3 (a := 3) (by decide); omega) (by decide) ?_
  refine j_iload_n (i := 0) (t := 90) C d_T_canHold_89 rfl rfl rfl ?_
  refine j_aload_n (i := 2) (t := 91) C d_T_canHold_90 rfl rfl (by first | exact jrv_r | exact jrv_n | exact jrv_f) rfl ?_
  refine j_aload_n (i := 3) (t := 92) C d_T_canHold_91 rfl rfl (by first | exact jrv_r | exact jrv_n | exact jrv_f) rfl ?_
  refine j_callV (As := [_]) (t := 95) C (c_V_order _ b c hi lo2) d_T_canHold_92 jb_V_order ml_T_188 jv_V_order (by assumption) rfl rfl rfl (Nat.le_of_ble_eq_true rfl) (by decide) (by omega) (by omega) (⟨rfl, vb, vc'⟩) rfl (fun r92 w92 p92 => ?_)
  obtain ⟨rfl, i92, rfl, s92⟩ := p92
  dsimp only [jst]
  refine j_callS (As := [_, _]) (t := 98) C (c_T_holds _ _ _) d_T_canHold_95 jb_T_holds ml_T_191 st_T_holds rfl (Nat.le_of_ble_eq_true rfl) (by decide) (by omega) (by omega) (rfl) rfl (fun r95 w95 p95 => ?_)
  obtain ⟨rfl, rfl⟩ := p95
  dsimp only [jst]
  rw [hO_sg s92]
  exact j_iret C d_T_canHold_98 (by cases hV op (vc hi lo2) <;> rfl) (⟨rfl, by simp_all [cH]⟩) (by omega) (by omega)
set_option maxHeartbeats 4000000 in
set_option maxRecDepth 100000 in
/-- mayHold -/
theorem c_C_mayHold (l : Launch) (a b : Nat) (x lo hi : jv) (ec : Nat) (ef : Nat → jv) : MC l y_C_mayHold b_C_mayHold 2 (some .boolean) 2 0 0
    (fun G w av => av = [.ref a, .ref b] ∧ isK G w a lo hi ec ef ∧ isV G w b x)
    (fun G w av r w' => w' = w ∧ r = some (.int (bI (mH x lo hi ec ef)))) := by
  refine MC.of 99 (by decide) ?_
  intro X w av hl C hnm hp
  obtain ⟨rfl, hk, hrest⟩ := hp
  obtain ⟨ty, ra, rc, tb, kn, kr, km, lA, hA, ea, fe, sa, hc, vlo, vhi, hea, hec, hef⟩ := hk
  obtain ⟨tl, hl7, -⟩ := id vlo
  obtain ⟨th, hl8, -⟩ := id vhi
  obtain ⟨tx, hb, -⟩ := id hrest
  refine ⟨[(0, _), (1, _)], rfl, Nat.le_of_ble_eq_true rfl, rfl, ?_⟩
  refine j_aload_n (i := 0) (t := 1) C d_C_mayHold_0 rfl rfl (by first | exact jrv_r | exact jrv_n | exact jrv_f) rfl ?_
  refine j_get (t := 4) C fl_C_44 d_C_mayHold_1 (by assumption) (by first | rfl | assumption) rfl ?_
  refine j_if_le (tgt := 21) (t := 7) C d_C_mayHold_4 (by decide) rfl (fun h4 => ?_) (fun h4 => ?_)
  · have hec0 : ec = 0 := by rcases Nat.eq_zero_or_pos ec with q | q; exact q; exact absurd h4 (nI_nle q (by omega))
    refine j_aload_n (i := 1) (t := 22) C d_C_mayHold_21 rfl rfl (by first | exact jrv_r | exact jrv_n | exact jrv_f) rfl ?_
    refine j_aload_n (i := 0) (t := 23) C d_C_mayHold_22 rfl rfl (by first | exact jrv_r | exact jrv_n | exact jrv_f) rfl ?_
    refine j_get (t := 26) C fl_C_34 d_C_mayHold_23 (by assumption) (by first | rfl | assumption) rfl ?_
    refine j_callV (As := [_]) (t := 29) C (c_V_order _ b lA x lo) d_C_mayHold_26 jb_V_order ml_C_57 jv_V_order (by assumption) rfl rfl rfl (Nat.le_of_ble_eq_true rfl) (by decide) (by omega) (by omega) (⟨rfl, hrest, vlo⟩) rfl (fun r26 w26 p26 => ?_)
    obtain ⟨rfl, i26, rfl, s26⟩ := p26
    dsimp only [jst]
    refine j_if_lt (tgt := 47) (t := 32) C d_C_mayHold_29 (by decide) rfl (fun h29 => ?_) (fun h29 => ?_)
    · refine j_iconst (x := 0) (t := 48) C d_C_mayHold_47 rfl rfl ?_
      exact j_iret C d_C_mayHold_48 rfl (⟨rfl, by first | simp_all [-Int32.not_lt, -Int32.not_le, -Int.not_lt, -Int.not_le, bI, mH, i_lt, z_lt, sg_ge s26, sg_le s37] | simp_all [-Int32.not_lt, -Int32.not_le, -Int.not_lt, -Int.not_le, bI, mH, i_lt, z_lt, sg_ge s26]⟩) (by omega) (by omega)
    · refine j_aload_n (i := 1) (t := 33) C d_C_mayHold_32 rfl rfl (by first | exact jrv_r | exact jrv_n | exact jrv_f) rfl ?_
      refine j_aload_n (i := 0) (t := 34) C d_C_mayHold_33 rfl rfl (by first | exact jrv_r | exact jrv_n | exact jrv_f) rfl ?_
      refine j_get (t := 37) C fl_C_38 d_C_mayHold_34 (by assumption) (by first | rfl | assumption) rfl ?_
      refine j_callV (As := [_]) (t := 40) C (c_V_order _ b hA x hi) d_C_mayHold_37 jb_V_order ml_C_57 jv_V_order (by assumption) rfl rfl rfl (Nat.le_of_ble_eq_true rfl) (by decide) (by omega) (by omega) (⟨rfl, hrest, vhi⟩) rfl (fun r37 w37 p37 => ?_)
      obtain ⟨rfl, i37, rfl, s37⟩ := p37
      dsimp only [jst]
      refine j_if_gt (tgt := 47) (t := 43) C d_C_mayHold_40 (by decide) rfl (fun h40 => ?_) (fun h40 => ?_)
      · refine j_iconst (x := 0) (t := 48) C d_C_mayHold_47 rfl rfl ?_
        exact j_iret C d_C_mayHold_48 rfl (⟨rfl, by first | simp_all [-Int32.not_lt, -Int32.not_le, -Int.not_lt, -Int.not_le, bI, mH, i_lt, z_lt, sg_ge s26, sg_le s37] | simp_all [-Int32.not_lt, -Int32.not_le, -Int.not_lt, -Int.not_le, bI, mH, i_lt, z_lt, sg_ge s26]⟩) (by omega) (by omega)
      · refine j_iconst (x := 1) (t := 44) C d_C_mayHold_43 rfl rfl ?_
        refine j_goto (tgt := 48) C d_C_mayHold_44 (by decide) ?_
        exact j_iret C d_C_mayHold_48 rfl (⟨rfl, by first | simp_all [-Int32.not_lt, -Int32.not_le, -Int.not_lt, -Int.not_le, bI, mH, i_lt, z_lt, sg_ge s26, sg_le s37] | simp_all [-Int32.not_lt, -Int32.not_le, -Int.not_lt, -Int.not_le, bI, mH, i_lt, z_lt, sg_ge s26]⟩) (by omega) (by omega)
  · have hec0 : 0 < ec := Nat.pos_of_ne_zero (fun q => h4 (by rw [q]; decide))
    refine j_aload_n (i := 1) (t := 8) C d_C_mayHold_7 rfl rfl (by first | exact jrv_r | exact jrv_n | exact jrv_f) rfl ?_
    refine j_aload_n (i := 0) (t := 9) C d_C_mayHold_8 rfl rfl (by first | exact jrv_r | exact jrv_n | exact jrv_f) rfl ?_
    refine j_get (t := 12) C fl_C_41 d_C_mayHold_9 (by assumption) (by first | rfl | assumption) rfl ?_
    refine j_iconst (x := 0) (t := 13) C d_C_mayHold_12 rfl rfl ?_
    refine j_aload_n (i := 0) (t := 14) C d_C_mayHold_13 rfl rfl (by first | exact jrv_r | exact jrv_n | exact jrv_f) rfl ?_
    refine j_get (t := 17) C fl_C_44 d_C_mayHold_14 (by assumption) (by first | rfl | assumption) rfl ?_
    rw [← nI_0]
    refine j_callSN (As := [_, _, _, _]) (t := 20) C (c_T_isAmong _ b ea x 100 fe ef 0 ec) d_C_mayHold_17 jb_T_isAmong ml_C_61 st_T_isAmong rfl (Nat.le_of_ble_eq_true rfl) (by decide) (by omega) (by omega) (⟨rfl, hrest, hea, by omega, by omega, fun j _ hj => hef j (by omega)⟩) rfl (fun r17 w17 p17 => ?_)
    obtain ⟨rfl, rfl⟩ := p17
    dsimp only [jst]
    exact j_iret C d_C_mayHold_20 (by cases amg x ef 0 ec <;> rfl) (⟨rfl, by unfold mH; rw [if_pos hec0]⟩) (by omega) (by omega)
