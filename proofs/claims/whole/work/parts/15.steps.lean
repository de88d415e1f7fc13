set_option maxHeartbeats 4000000 in
set_option maxRecDepth 100000 in
/-- isOutside -/
theorem c_S_isOutside (l : Launch) (a b : Nat) (x : jv) (fs : List Value) (al : Nat) (lit : Nat → jv) (p m : Nat) : MC l y_S_isOutside b_S_isOutside 2 (some .boolean) 2 0 0
    (fun G w av => av = [.ref a, .ref b] ∧ jh w a (eO cS fs) ∧ fs[4]? = some (.ref al) ∧ fs[5]? = some (.int (nI p)) ∧ fs[6]? = some (.int (nI m)) ∧ isL G w al lit p m ∧ isV G w b x)
    (fun G w av r w' => w' = w ∧ r = some (.int (bI (!amg x lit p m)))) := by
  refine MC.of 99 (by decide) ?_
  intro X w av hl C hnm hp
  obtain ⟨rfl, ha, h4, h5, h6, ⟨f, hal, hpm, hlt⟩, hx⟩ := hp
  obtain ⟨tx, hb, -⟩ := id hx
  refine ⟨[(0, _), (1, _)], rfl, Nat.le_of_ble_eq_true rfl, rfl, ?_⟩
  refine j_aload_n (i := 1) (t := 1) C d_S_isOutside_0 rfl rfl (by first | exact jrv_r | exact jrv_n | exact jrv_f) rfl ?_
  refine j_aload_n (i := 0) (t := 2) C d_S_isOutside_1 rfl rfl (by first | exact jrv_r | exact jrv_n | exact jrv_f) rfl ?_
  refine j_get (t := 5) C fl_S_25 d_S_isOutside_2 (by assumption) (by first | rfl | assumption) rfl ?_
  refine j_aload_n (i := 0) (t := 6) C d_S_isOutside_5 rfl rfl (by first | exact jrv_r | exact jrv_n | exact jrv_f) rfl ?_
  refine j_get (t := 9) C fl_S_29 d_S_isOutside_6 (by assumption) (by first | rfl | assumption) rfl ?_
  refine j_aload_n (i := 0) (t := 10) C d_S_isOutside_9 rfl rfl (by first | exact jrv_r | exact jrv_n | exact jrv_f) rfl ?_
  refine j_get (t := 13) C fl_S_32 d_S_isOutside_10 (by assumption) (by first | rfl | assumption) rfl ?_
  refine j_callSN (As := [_, _, _, _]) (t := 16) C (c_T_isAmong _ b al x 64 f lit p m) d_S_isOutside_13 jb_T_isAmong ml_S_41 st_T_isAmong rfl (Nat.le_of_ble_eq_true rfl) (by decide) (by omega) (by omega) (⟨rfl, hx, hal, hpm, by omega, hlt⟩) rfl (fun r13 w13 p13 => ?_)
  obtain ⟨rfl, rfl⟩ := p13
  dsimp only [jst]
  refine j_if_ne (tgt := 23) (t := 19) C d_S_isOutside_16 (by decide) rfl (fun h16 => ?_) (fun h16 => ?_)
  · refine j_iconst (x := 0) (t := 24) C d_S_isOutside_23 rfl rfl ?_
    exact j_iret C d_S_isOutside_24 rfl (⟨rfl, by first | (rw [bI_0] at h16; rw [h16]; rfl) | (rw [bI_0, Bool.not_eq_false] at h16; rw [h16]; rfl)⟩) (by omega) (by omega)
  · refine j_iconst (x := 1) (t := 20) C d_S_isOutside_19 rfl rfl ?_
    refine j_goto (tgt := 24) C d_S_isOutside_20 (by decide) ?_
    exact j_iret C d_S_isOutside_24 rfl (⟨rfl, by first | (rw [bI_0] at h16; rw [h16]; rfl) | (rw [bI_0, Bool.not_eq_false] at h16; rw [h16]; rfl)⟩) (by omega) (by omega)
set_option maxHeartbeats 4000000 in
set_option maxRecDepth 100000 in
/-- canBeInside -/
theorem c_S_canBeInside (l : Launch) (a ca : Nat) (fs : List Value) (al : Nat) (lit : Nat → jv) (p m : Nat) (lo hi : jv) (ec : Nat) (ef : Nat → jv) : MC l y_S_canBeInside b_S_canBeInside 2 (some .boolean) 3 0 0
    (fun G w av => av = [.ref a] ∧ jh w a (eO cS fs) ∧ fs[1]? = some (va_rf (some ca)) ∧ fs[4]? = some (.ref al) ∧ fs[5]? = some (.int (nI p)) ∧ fs[6]? = some (.int (nI m)) ∧ isL G w al lit p m ∧ isK G w ca lo hi ec ef)
    (fun G w av r w' => w' = w ∧ r = some (.int (bI (inK lit p lo hi ec ef m)))) := by
  refine MC.of 99 (by decide) ?_
  intro X w av hl C hnm hp
  obtain ⟨rfl, ha, h1, h4, h5, h6, ⟨f, hal, hpm, hlt⟩, hk⟩ := hp
  obtain ⟨ty, ra, rc, tb, kn, kr, km, lA, hA, ea, fe, sa, hc, -⟩ := id hk
  refine ⟨[(0, _)], rfl, Nat.le_of_ble_eq_true rfl, rfl, ?_⟩
  have loop : ∀ (q i : Nat), m + 1 ≤ i + q → i ≤ m → inK lit p lo hi ec ef i = false → J X (2, 99) (jQ X (fun r w' => w' = w ∧ r = some (.int (bI (inK lit p lo hi ec ef m)))) 0 0) w 0 0 5 [(0, .ref a), (1, .int (nI (p + i)))] [] := by
    intro q
    induction q with
    | zero => intro i h1 h2; omega
    | succ q ih =>
      intro i hi1 hi2 hi3
      refine j_iload_n (i := 1) (t := 6) C d_S_canBeInside_5 rfl rfl rfl ?_
      refine j_aload_n (i := 0) (t := 7) C d_S_canBeInside_6 rfl rfl (by first | exact jrv_r | exact jrv_n | exact jrv_f) rfl ?_
      refine j_get (t := 10) C fl_S_29 d_S_canBeInside_7 (by assumption) (by first | rfl | assumption) rfl ?_
      refine j_aload_n (i := 0) (t := 11) C d_S_canBeInside_10 rfl rfl (by first | exact jrv_r | exact jrv_n | exact jrv_f) rfl ?_
      refine j_get (t := 14) C fl_S_32 d_S_canBeInside_11 (by assumption) (by first | rfl | assumption) rfl ?_
      refine j_iadd (t := 15) C d_S_canBeInside_14 rfl ?_
      refine j_icmp_ge (tgt := 42) (t := 18) C d_S_canBeInside_15 (by decide) rfl (fun h15 => ?_) (fun h15 => ?_)
      · rw [nI_add, nI_leI (by omega) (by omega)] at h15
        have : i = m := by omega
        subst this
        refine j_iconst (x := 0) (t := 43) C d_S_canBeInside_42 rfl rfl ?_
        exact j_iret C d_S_canBeInside_43 rfl (⟨rfl, by rw [hi3]; rfl⟩) (by omega) (by omega)
      · rw [nI_add, nI_leI (by omega) (by omega)] at h15
        obtain ⟨b, hfb, hb⟩ := hlt (p + i) (by omega) (by omega)
        have hin : vp_in (nI (p + i)) 64 := vp_in_nI (by omega) (by omega)
        refine j_aload_n (i := 0) (t := 19) C d_S_canBeInside_18 rfl rfl (by first | exact jrv_r | exact jrv_n | exact jrv_f) rfl ?_
        refine j_get (t := 22) C fl_S_15 d_S_canBeInside_19 (by assumption) (by first | rfl | assumption) rfl ?_
        refine j_aload_n (i := 0) (t := 23) C d_S_canBeInside_22 rfl rfl (by first | exact jrv_r | exact jrv_n | exact jrv_f) rfl ?_
        refine j_get (t := 26) C fl_S_25 d_S_canBeInside_23 (by assumption) (by first | rfl | assumption) rfl ?_
        refine j_iload_n (i := 1) (t := 27) C d_S_canBeInside_26 rfl rfl rfl ?_
        refine j_aaload (t := 28) C d_S_canBeInside_27 (by assumption) (by rfl) (by assumption) rfl ?_
        rw [nI_clamp (by omega), hfb]
        refine j_callV (As := [_]) (t := 31) C (c_C_mayHold _ ca b (lit (p + i)) lo hi ec ef) d_S_canBeInside_28 jb_C_mayHold ml_S_90 jv_C_mayHold (by assumption) rfl rfl rfl (Nat.le_of_ble_eq_true rfl) (by decide) (by omega) (by omega) (⟨rfl, hk, hb⟩) rfl (fun r28 w28 p28 => ?_)
        obtain ⟨rfl, rfl⟩ := p28
        dsimp only [jst]
        refine j_if_eq (tgt := 36) (t := 34) C d_S_canBeInside_31 (by decide) rfl (fun h31 => ?_) (fun h31 => ?_)
        · refine j_iinc (y := _ + 1) (t := 39) (lv' := [(0, _), (1, _)]) C d_S_canBeInside_36 rfl rfl (by decide) (by decide) rfl rfl ?_
          refine j_goto (tgt := 5) C d_S_canBeInside_39 (by decide) ?_
          rw [nI_1]
          exact ih (i + 1) (by omega) (by omega) (inK_next hi3 (by rw [bI_0] at h31; exact h31))
        · refine j_iconst (x := 1) (t := 35) C d_S_canBeInside_34 rfl rfl ?_
          exact j_iret C d_S_canBeInside_35 rfl (⟨rfl, by rw [inK_true (i := i) (by omega) (by rw [bI_0, Bool.not_eq_false] at h31; exact h31)]; rfl⟩) (by omega) (by omega)
  refine j_aload_n (i := 0) (t := 1) C d_S_canBeInside_0 rfl rfl (by first | exact jrv_r | exact jrv_n | exact jrv_f) rfl ?_
  refine j_get (t := 4) C fl_S_29 d_S_canBeInside_1 (by assumption) (by first | rfl | assumption) rfl ?_
  refine j_istore_n (i := 1) (t := 5) (lv' := [(0, _), (1, _)]) C d_S_canBeInside_4 rfl (by decide) (by decide) rfl rfl ?_
  exact loop (m + 1) 0 (by omega) (Nat.zero_le _) rfl
set_option maxHeartbeats 4000000 in
set_option maxRecDepth 100000 in
/-- canBeOutside -/
theorem c_S_canBeOutside (l : Launch) (a ca : Nat) (fs : List Value) (al : Nat) (lit : Nat → jv) (p m : Nat) (lo hi : jv) (ec : Nat) (ef : Nat → jv) : MC l y_S_canBeOutside b_S_canBeOutside 2 (some .boolean) 3 0 0
    (fun G w av => av = [.ref a] ∧ jh w a (eO cS fs) ∧ fs[1]? = some (va_rf (some ca)) ∧ fs[4]? = some (.ref al) ∧ fs[5]? = some (.int (nI p)) ∧ fs[6]? = some (.int (nI m)) ∧ isL G w al lit p m ∧ isK G w ca lo hi ec ef)
    (fun G w av r w' => w' = w ∧ r = some (.int (bI (outK lit p m lo hi ec ef)))) := by
  refine MC.of 99 (by decide) ?_
  intro X w av hl C hnm hp
  obtain ⟨rfl, ha, h1, h4, h5, h6, hL, hk⟩ := hp
  obtain ⟨ty, ra, rc, tb, kn, kr, km, lA, hA, ea, fe, sa, hc, vlo, vhi, hea, hec, hef⟩ := id hk
  obtain ⟨tl, hl7, -⟩ := id vlo
  obtain ⟨th, hl8, -⟩ := id vhi
  refine ⟨[(0, _)], rfl, Nat.le_of_ble_eq_true rfl, rfl, ?_⟩
  have loop : ∀ (q i : Nat), ec + 1 ≤ i + q → 0 < ec → i ≤ ec → outE lit p m ef i = false → J X (2, 99) (jQ X (fun r w' => w' = w ∧ r = some (.int (bI (outK lit p m lo hi ec ef)))) 0 0) w 0 0 52 [(0, .ref a), (1, .int (nI i))] [] := by
    intro q
    induction q with
    | zero => intro i h1 h2; omega
    | succ q ih =>
      intro i hi1 hi0 hi2 hi3
      refine j_iload_n (i := 1) (t := 53) C d_S_canBeOutside_52 rfl rfl rfl ?_
      refine j_aload_n (i := 0) (t := 54) C d_S_canBeOutside_53 rfl rfl (by first | exact jrv_r | exact jrv_n | exact jrv_f) rfl ?_
      refine j_get (t := 57) C fl_S_15 d_S_canBeOutside_54 (by assumption) (by first | rfl | assumption) rfl ?_
      refine j_get (t := 60) C fl_S_94 d_S_canBeOutside_57 (by assumption) (by first | rfl | assumption) rfl ?_
      refine j_icmp_ge (tgt := 87) (t := 63) C d_S_canBeOutside_60 (by decide) rfl (fun h60 => ?_) (fun h60 => ?_)
      · rw [nI_leI (by omega) (by omega)] at h60
        have : i = ec := by omega
        subst this
        refine j_iconst (x := 0) (t := 88) C d_S_canBeOutside_87 rfl rfl ?_
        exact j_iret C d_S_canBeOutside_88 rfl (⟨rfl, by rw [outK_e hi0, hi3]; rfl⟩) (by omega) (by omega)
      · rw [nI_leI (by omega) (by omega)] at h60
        obtain ⟨b, hfb, hb⟩ := hef i (by omega)
        have hin : vp_in (nI i) 100 := vp_in_nI (by omega) (by omega)
        refine j_aload_n (i := 0) (t := 64) C d_S_canBeOutside_63 rfl rfl (by first | exact jrv_r | exact jrv_n | exact jrv_f) rfl ?_
        refine j_aload_n (i := 0) (t := 65) C d_S_canBeOutside_64 rfl rfl (by first | exact jrv_r | exact jrv_n | exact jrv_f) rfl ?_
        refine j_get (t := 68) C fl_S_15 d_S_canBeOutside_65 (by assumption) (by first | rfl | assumption) rfl ?_
        refine j_get (t := 71) C fl_S_107 d_S_canBeOutside_68 (by assumption) (by first | rfl | assumption) rfl ?_
        refine j_iload_n (i := 1) (t := 72) C d_S_canBeOutside_71 rfl rfl rfl ?_
        refine j_aaload (t := 73) C d_S_canBeOutside_72 (by assumption) (by rfl) (by assumption) rfl ?_
        rw [nI_clamp (by omega), hfb]
        refine j_callV (As := [_]) (t := 76) C (c_S_isOutside _ a b (ef i) fs al lit p m) d_S_canBeOutside_73 jb_S_isOutside ml_S_104 jv_S_isOutside (by assumption) rfl rfl rfl (Nat.le_of_ble_eq_true rfl) (by decide) (by omega) (by omega) (⟨rfl, ha, h4, h5, h6, hL, hb⟩) rfl (fun r73 w73 p73 => ?_)
        obtain ⟨rfl, rfl⟩ := p73
        dsimp only [jst]
        refine j_if_eq (tgt := 81) (t := 79) C d_S_canBeOutside_76 (by decide) rfl (fun h76 => ?_) (fun h76 => ?_)
        · refine j_iinc (y := _ + 1) (t := 84) (lv' := [(0, _), (1, _)]) C d_S_canBeOutside_81 rfl rfl (by decide) (by decide) rfl rfl ?_
          refine j_goto (tgt := 52) C d_S_canBeOutside_84 (by decide) ?_
          rw [nI_1]
          exact ih (i + 1) (by omega) hi0 (by omega) (outE_next hi3 (by rw [bI_0] at h76; simpa using h76))
        · refine j_iconst (x := 1) (t := 80) C d_S_canBeOutside_79 rfl rfl ?_
          exact j_iret C d_S_canBeOutside_80 rfl (⟨rfl, by rw [outK_e hi0, outE_true (i := i) (by omega) (by rw [bI_0, Bool.not_eq_false] at h76; simpa using h76)]; rfl⟩) (by omega) (by omega)
  refine j_aload_n (i := 0) (t := 1) C d_S_canBeOutside_0 rfl rfl (by first | exact jrv_r | exact jrv_n | exact jrv_f) rfl ?_
  refine j_get (t := 4) C fl_S_15 d_S_canBeOutside_1 (by assumption) (by first | rfl | assumption) rfl ?_
  refine j_get (t := 7) C fl_S_94 d_S_canBeOutside_4 (by assumption) (by first | rfl | assumption) rfl ?_
  refine j_if_ne (tgt := 50) (t := 10) C d_S_canBeOutside_7 (by decide) rfl (fun h7 => ?_) (fun h7 => ?_)
  · refine j_iconst (x := 0) (t := 51) C d_S_canBeOutside_50 rfl rfl ?_
    refine j_istore_n (i := 1) (t := 52) (lv' := [(0, _), (1, _)]) C d_S_canBeOutside_51 rfl (by decide) (by decide) rfl rfl ?_
    have he0 : 0 < ec := Nat.pos_of_ne_zero (fun q => h7 (by rw [q]; rfl))
    exact loop (ec + 1) 0 (by omega) he0 (Nat.zero_le _) rfl
  · have he0 : ec = 0 := by rcases Nat.eq_zero_or_pos ec with q | q; exact q; exact absurd h7 (nI_ne0 q (by omega))
    refine j_aload_n (i := 0) (t := 11) C d_S_canBeOutside_10 rfl rfl (by first | exact jrv_r | exact jrv_n | exact jrv_f) rfl ?_
    refine j_get (t := 14) C fl_S_15 d_S_canBeOutside_11 (by assumption) (by first | rfl | assumption) rfl ?_
    refine j_get (t := 17) C fl_S_97 d_S_canBeOutside_14 (by assumption) (by first | rfl | assumption) rfl ?_
    refine j_aload_n (i := 0) (t := 18) C d_S_canBeOutside_17 rfl rfl (by first | exact jrv_r | exact jrv_n | exact jrv_f) rfl ?_
    refine j_get (t := 21) C fl_S_15 d_S_canBeOutside_18 (by assumption) (by first | rfl | assumption) rfl ?_
    refine j_get (t := 24) C fl_S_101 d_S_canBeOutside_21 (by assumption) (by first | rfl | assumption) rfl ?_
    refine j_callV (As := [_]) (t := 27) C (c_V_order _ lA hA lo hi) d_S_canBeOutside_24 jb_V_order ml_S_48 jv_V_order (by assumption) rfl rfl rfl (Nat.le_of_ble_eq_true rfl) (by decide) (by omega) (by omega) (⟨rfl, vlo, vhi⟩) rfl (fun r24 w24 p24 => ?_)
    obtain ⟨rfl, i24, rfl, s24⟩ := p24
    dsimp only [jst]
    refine j_if_ne (tgt := 44) (t := 30) C d_S_canBeOutside_27 (by decide) rfl (fun h27 => ?_) (fun h27 => ?_)
    · refine j_iconst (x := 1) (t := 45) C d_S_canBeOutside_44 rfl rfl ?_
      refine j_goto (tgt := 49) C d_S_canBeOutside_45 (by decide) ?_
      exact j_iret C d_S_canBeOutside_49 rfl (⟨rfl, by rw [outK_0 he0]; first | (rw [s24.2] at h27; simp_all [bI, bI_0]; done) | (rw [s24.2] at h27; rw [bI_0] at h41; simp_all [bI])⟩) (by omega) (by omega)
    · refine j_aload_n (i := 0) (t := 31) C d_S_canBeOutside_30 rfl rfl (by first | exact jrv_r | exact jrv_n | exact jrv_f) rfl ?_
      refine j_aload_n (i := 0) (t := 32) C d_S_canBeOutside_31 rfl rfl (by first | exact jrv_r | exact jrv_n | exact jrv_f) rfl ?_
      refine j_get (t := 35) C fl_S_15 d_S_canBeOutside_32 (by assumption) (by first | rfl | assumption) rfl ?_
      refine j_get (t := 38) C fl_S_97 d_S_canBeOutside_35 (by assumption) (by first | rfl | assumption) rfl ?_
      refine j_callV (As := [_]) (t := 41) C (c_S_isOutside _ a lA lo fs al lit p m) d_S_canBeOutside_38 jb_S_isOutside ml_S_104 jv_S_isOutside (by assumption) rfl rfl rfl (Nat.le_of_ble_eq_true rfl) (by decide) (by omega) (by omega) (⟨rfl, ha, h4, h5, h6, hL, vlo⟩) rfl (fun r38 w38 p38 => ?_)
      obtain ⟨rfl, rfl⟩ := p38
      dsimp only [jst]
      refine j_if_eq (tgt := 48) (t := 44) C d_S_canBeOutside_41 (by decide) rfl (fun h41 => ?_) (fun h41 => ?_)
      · refine j_iconst (x := 0) (t := 49) C d_S_canBeOutside_48 rfl rfl ?_
        exact j_iret C d_S_canBeOutside_49 rfl (⟨rfl, by rw [outK_0 he0]; first | (rw [s24.2] at h27; simp_all [bI, bI_0]; done) | (rw [s24.2] at h27; rw [bI_0] at h41; simp_all [bI])⟩) (by omega) (by omega)
      · refine j_iconst (x := 1) (t := 45) C d_S_canBeOutside_44 rfl rfl ?_
        refine j_goto (tgt := 49) C d_S_canBeOutside_45 (by decide) ?_
        exact j_iret C d_S_canBeOutside_49 rfl (⟨rfl, by rw [outK_0 he0]; first | (rw [s24.2] at h27; simp_all [bI, bI_0]; done) | (rw [s24.2] at h27; rw [bI_0] at h41; simp_all [bI])⟩) (by omega) (by omega)
set_option maxHeartbeats 4000000 in
set_option maxRecDepth 100000 in
/-- canCompare with another column -/
theorem c_S_canCompare_col (l : Launch) (a ca cb : Nat) (fs : List Value) (by1 : Int32) (lo hi lo2 hi2 : jv) (ec ec2 : Nat) (ef ef2 : Nat → jv) : MC l y_S_canCompare b_S_canCompare 4 (some .boolean) 2 0 0
    (fun G w av => av = [.ref a, .int by1] ∧ jh w a (eO cS fs) ∧ fs[1]? = some (va_rf (some ca)) ∧ isK G w ca lo hi ec ef ∧ fs[3]? = some (va_rf (some cb)) ∧ isK G w cb lo2 hi2 ec2 ef2)
    (fun G w av r w' => w' = w ∧ r = some (.int (bI (cH by1 lo hi lo2 hi2)))) := by
  refine MC.of 99 (by decide) ?_
  intro X w av hl C hnm hp
  obtain ⟨rfl, ha, h1, hk, h3, hk2⟩ := hp
  obtain ⟨ty, ra, rc, tb, kn, kr, km, lA, hA, ea, fe, sa, hc, vlo, vhi, -⟩ := id hk
  obtain ⟨ty2, ra2, rc2, tb2, kn2, kr2, km2, lA2, hA2, ea2, fe2, sa2, hc2, vlo2, vhi2, -⟩ := id hk2
  refine ⟨[(0, _), (1, _)], rfl, Nat.le_of_ble_eq_true rfl, rfl, ?_⟩
  refine j_aload_n (i := 0) (t := 1) C d_S_canCompare_0 rfl rfl (by first | exact jrv_r | exact jrv_n | exact jrv_f) rfl ?_
  refine j_get (t := 4) C fl_S_22 d_S_canCompare_1 (by assumption) (by first | rfl | assumption) rfl ?_
  refine j_ifnull (tgt := 40) (t := 7) C d_S_canCompare_4 (by decide) rfl (fun h4 => absurd h4 (by simp)) (fun a4 h4 => ?_)
  refine j_iload_n (i := 1) (t := 8) C d_S_canCompare_7 rfl rfl rfl ?_
  refine j_aload_n (i := 0) (t := 9) C d_S_canCompare_8 rfl rfl (by first | exact jrv_r | exact jrv_n | exact jrv_f) rfl ?_
  refine j_get (t := 12) C fl_S_15 d_S_canCompare_9 (by assumption) (by first | rfl | assumption) rfl ?_
  refine j_get (t := 15) C fl_S_97 d_S_canCompare_12 (by assumption) (by first | rfl | assumption) rfl ?_
  refine j_aload_n (i := 0) (t := 16) C d_S_canCompare_15 rfl rfl (by first | exact jrv_r | exact jrv_n | exact jrv_f) rfl ?_
  refine j_get (t := 19) C fl_S_15 d_S_canCompare_16 (by assumption) (by first | rfl | assumption) rfl ?_
  refine j_get (t := 22) C fl_S_101 d_S_canCompare_19 (by assumption) (by first | rfl | assumption) rfl ?_
  refine j_aload_n (i := 0) (t := 23) C d_S_canCompare_22 rfl rfl (by first | exact jrv_r | exact jrv_n | exact jrv_f) rfl ?_
  refine j_get (t := 26) C fl_S_22 d_S_canCompare_23 (by assumption) (by first | rfl | assumption) rfl ?_
  refine j_get (t := 29) C fl_S_97 d_S_canCompare_26 (by assumption) (by first | rfl | assumption) rfl ?_
  refine j_aload_n (i := 0) (t := 30) C d_S_canCompare_29 rfl rfl (by first | exact jrv_r | exact jrv_n | exact jrv_f) rfl ?_
  refine j_get (t := 33) C fl_S_22 d_S_canCompare_30 (by assumption) (by first | rfl | assumption) rfl ?_
  refine j_get (t := 36) C fl_S_101 d_S_canCompare_33 (by assumption) (by first | rfl | assumption) rfl ?_
  refine j_callSN (As := [_, _, _, _, _]) (t := 39) C (c_T_canHold _ by1 lA hA lA2 hA2 lo hi lo2 hi2) d_S_canCompare_36 jb_T_canHold ml_S_110 st_T_canHold rfl (Nat.le_of_ble_eq_true rfl) (by decide) (by omega) (by omega) (⟨rfl, vlo, vhi, vlo2, vhi2⟩) rfl (fun r36 w36 p36 => ?_)
  obtain ⟨rfl, rfl⟩ := p36
  dsimp only [jst]
  exact j_iret C d_S_canCompare_39 (by cases cH by1 lo hi lo2 hi2 <;> rfl) (⟨rfl, rfl⟩) (by omega) (by omega)

set_option maxHeartbeats 4000000 in
set_option maxRecDepth 100000 in
/-- canCompare with a literal -/
theorem c_S_canCompare_lit (l : Launch) (a ca : Nat) (fs : List Value) (by1 : Int32) (lo hi : jv) (ec : Nat) (ef : Nat → jv) (al : Nat) (f : Nat → Option Nat) (p : Nat) (x : jv) : MC l y_S_canCompare b_S_canCompare 4 (some .boolean) 2 0 0
    (fun G w av => av = [.ref a, .int by1] ∧ jh w a (eO cS fs) ∧ fs[1]? = some (va_rf (some ca)) ∧ isK G w ca lo hi ec ef ∧ fs[3]? = some (va_rf none) ∧ fs[4]? = some (.ref al) ∧ fs[5]? = some (.int (nI p)) ∧ jh w al (eR G 5 64 f) ∧ p < 64 ∧ ∃ b, f p = some b ∧ isV G w b x)
    (fun G w av r w' => w' = w ∧ r = some (.int (bI (cmL by1 lo hi ec ef x)))) := by
  refine MC.of 99 (by decide) ?_
  intro X w av hl C hnm hp
  obtain ⟨rfl, ha, h1, hk, h3, h4', h5, hal, hp64, b, hfb, hb⟩ := hp
  obtain ⟨ty, ra, rc, tb, kn, kr, km, lA, hA, ea, fe, sa, hc, vlo, vhi, hea, hec, hef⟩ := id hk
  have hinp : vp_in (nI p) 64 := vp_in_nI hp64 (by omega)
  refine ⟨[(0, _), (1, _)], rfl, Nat.le_of_ble_eq_true rfl, rfl, ?_⟩
  have loop : ∀ (q i : Nat), ec + 1 ≤ i + q → 0 < ec → i ≤ ec → anH by1 ef x i = false → J X (4, 99) (jQ X (fun r w' => w' = w ∧ r = some (.int (bI (cmL by1 lo hi ec ef x)))) 0 0) w 0 0 83 [(0, .ref a), (1, .int by1), (2, .ref b), (3, .int (nI i))] [] := by
    intro q
    induction q with
    | zero => intro i h1 h2; omega
    | succ q ih =>
      intro i hi1 hi0 hi2 hi3
      refine j_iload_n (i := 3) (t := 84) C d_S_canCompare_83 rfl rfl rfl ?_
      refine j_aload_n (i := 0) (t := 85) C d_S_canCompare_84 rfl rfl (by first | exact jrv_r | exact jrv_n | exact jrv_f) rfl ?_
      refine j_get (t := 88) C fl_S_15 d_S_canCompare_85 (by assumption) (by first | rfl | assumption) rfl ?_
      refine j_get (t := 91) C fl_S_94 d_S_canCompare_88 (by assumption) (by first | rfl | assumption) rfl ?_
      refine j_icmp_ge (tgt := 122) (t := 94) C d_S_canCompare_91 (by decide) rfl (fun h91 => ?_) (fun h91 => ?_)
      · rw [nI_leI (by omega) (by omega)] at h91
        have : i = ec := by omega
        subst this
        refine j_iconst (x := 0) (t := 123) C d_S_canCompare_122 rfl rfl ?_
        exact j_iret C d_S_canCompare_123 rfl (⟨rfl, by rw [cmL_e hi0, hi3]; rfl⟩) (by omega) (by omega)
      · rw [nI_leI (by omega) (by omega)] at h91
        obtain ⟨b2, hfb2, hb2⟩ := hef i (by omega)
        obtain ⟨t2, hbo, -⟩ := id hb2
        have hin : vp_in (nI i) 100 := vp_in_nI (by omega) (by omega)
        refine j_iload_n (i := 1) (t := 95) C d_S_canCompare_94 rfl rfl rfl ?_
        refine j_aload_n (i := 0) (t := 96) C d_S_canCompare_95 rfl rfl (by first | exact jrv_r | exact jrv_n | exact jrv_f) rfl ?_
        refine j_get (t := 99) C fl_S_15 d_S_canCompare_96 (by assumption) (by first | rfl | assumption) rfl ?_
        refine j_get (t := 102) C fl_S_107 d_S_canCompare_99 (by assumption) (by first | rfl | assumption) rfl ?_
        refine j_iload_n (i := 3) (t := 103) C d_S_canCompare_102 rfl rfl rfl ?_
        refine j_aaload (t := 104) C d_S_canCompare_103 (by assumption) (by rfl) (by assumption) rfl ?_
        rw [nI_clamp (by omega), hfb2]
        refine j_aload_n (i := 2) (t := 105) C d_S_canCompare_104 rfl rfl (by first | exact jrv_r | exact jrv_n | exact jrv_f) rfl ?_
        refine j_callV (As := [_]) (t := 108) C (c_V_order _ b2 b (ef i) x) d_S_canCompare_105 jb_V_order ml_S_48 jv_V_order (by assumption) rfl rfl rfl (Nat.le_of_ble_eq_true rfl) (by decide) (by omega) (by omega) (⟨rfl, hb2, hb⟩) rfl (fun r105 w105 p105 => ?_)
        obtain ⟨rfl, i105, rfl, s105⟩ := p105
        dsimp only [jst]
        refine j_callSN (As := [_, _]) (t := 111) C (c_T_holds _ _ _) d_S_canCompare_108 jb_T_holds ml_S_54 st_T_holds rfl (Nat.le_of_ble_eq_true rfl) (by decide) (by omega) (by omega) (rfl) rfl (fun r108 w108 p108 => ?_)
        obtain ⟨rfl, rfl⟩ := p108
        dsimp only [jst]
        rw [hO_sg s105]
        refine j_if_eq (tgt := 116) (t := 114) C d_S_canCompare_111 (by decide) rfl (fun h111 => ?_) (fun h111 => ?_)
        · refine j_iinc (y := _ + 1) (t := 119) (lv' := [(0, _), (1, _), (2, _), (3, _)]) C d_S_canCompare_116 rfl rfl (by decide) (by decide) rfl rfl ?_
          refine j_goto (tgt := 83) C d_S_canCompare_119 (by decide) ?_
          rw [nI_1]
          exact ih (i + 1) (by omega) hi0 (by omega) (anH_next hi3 (by rw [bI_0] at h111; exact h111))
        · refine j_iconst (x := 1) (t := 115) C d_S_canCompare_114 rfl rfl ?_
          exact j_iret C d_S_canCompare_115 rfl (⟨rfl, by rw [cmL_e hi0, anH_true (i := i) (by omega) (by rw [bI_0, Bool.not_eq_false] at h111; exact h111)]; rfl⟩) (by omega) (by omega)
  refine j_aload_n (i := 0) (t := 1) C d_S_canCompare_0 rfl rfl (by first | exact jrv_r | exact jrv_n | exact jrv_f) rfl ?_
  refine j_get (t := 4) C fl_S_22 d_S_canCompare_1 (by assumption) (by first | rfl | assumption) rfl ?_
  refine j_ifnull (tgt := 40) (t := 7) C d_S_canCompare_4 (by decide) rfl (fun h4 => ?_) (fun a4 h4 => absurd h4 (by simp))
  refine j_aload_n (i := 0) (t := 41) C d_S_canCompare_40 rfl rfl (by first | exact jrv_r | exact jrv_n | exact jrv_f) rfl ?_
  refine j_get (t := 44) C fl_S_25 d_S_canCompare_41 (by assumption) (by first | rfl | assumption) rfl ?_
  refine j_aload_n (i := 0) (t := 45) C d_S_canCompare_44 rfl rfl (by first | exact jrv_r | exact jrv_n | exact jrv_f) rfl ?_
  refine j_get (t := 48) C fl_S_29 d_S_canCompare_45 (by assumption) (by first | rfl | assumption) rfl ?_
  refine j_aaload (t := 49) C d_S_canCompare_48 (by assumption) (by rfl) (by assumption) rfl ?_
  rw [nI_clamp (by omega), hfb]
  refine j_lv (st' := [.ref b]) rfl rfl ?_
  refine j_astore_n (i := 2) (t := 50) (lv' := [(0, _), (1, _), (2, _)]) C d_S_canCompare_49 rfl (by first | exact jrv_r | exact jrv_n | exact jrv_f) (by decide) (by decide) rfl rfl ?_
  refine j_aload_n (i := 0) (t := 51) C d_S_canCompare_50 rfl rfl (by first | exact jrv_r | exact jrv_n | exact jrv_f) rfl ?_
  refine j_get (t := 54) C fl_S_15 d_S_canCompare_51 (by assumption) (by first | rfl | assumption) rfl ?_
  refine j_get (t := 57) C fl_S_94 d_S_canCompare_54 (by assumption) (by first | rfl | assumption) rfl ?_
  refine j_if_ne (tgt := 81) (t := 60) C d_S_canCompare_57 (by decide) rfl (fun h57 => ?_) (fun h57 => ?_)
  · refine j_iconst (x := 0) (t := 82) C d_S_canCompare_81 rfl rfl ?_
    refine j_istore_n (i := 3) (t := 83) (lv' := [(0, _), (1, _), (2, _), (3, _)]) C d_S_canCompare_82 rfl (by decide) (by decide) rfl rfl ?_
    have he0 : 0 < ec := Nat.pos_of_ne_zero (fun q => h57 (by rw [q]; rfl))
    exact loop (ec + 1) 0 (by omega) he0 (Nat.zero_le _) rfl
  · have he0 : ec = 0 := by rcases Nat.eq_zero_or_pos ec with q | q; exact q; exact absurd h57 (nI_ne0 q (by omega))
    refine j_iload_n (i := 1) (t := 61) C d_S_canCompare_60 rfl rfl rfl ?_
    refine j_aload_n (i := 0) (t := 62) C d_S_canCompare_61 rfl rfl (by first | exact jrv_r | exact jrv_n | exact jrv_f) rfl ?_
    refine j_get (t := 65) C fl_S_15 d_S_canCompare_62 (by assumption) (by first | rfl | assumption) rfl ?_
    refine j_get (t := 68) C fl_S_97 d_S_canCompare_65 (by assumption) (by first | rfl | assumption) rfl ?_
    refine j_aload_n (i := 0) (t := 69) C d_S_canCompare_68 rfl rfl (by first | exact jrv_r | exact jrv_n | exact jrv_f) rfl ?_
    refine j_get (t := 72) C fl_S_15 d_S_canCompare_69 (by assumption) (by first | rfl | assumption) rfl ?_
    refine j_get (t := 75) C fl_S_101 d_S_canCompare_72 (by assumption) (by first | rfl | assumption) rfl ?_
    refine j_aload_n (i := 2) (t := 76) C d_S_canCompare_75 rfl rfl (by first | exact jrv_r | exact jrv_n | exact jrv_f) rfl ?_
    refine j_aload_n (i := 2) (t := 77) C d_S_canCompare_76 rfl rfl (by first | exact jrv_r | exact jrv_n | exact jrv_f) rfl ?_
    refine j_callSN (As := [_, _, _, _, _]) (t := 80) C (c_T_canHold _ by1 lA hA b b lo hi x x) d_S_canCompare_77 jb_T_canHold ml_S_110 st_T_canHold rfl (Nat.le_of_ble_eq_true rfl) (by decide) (by omega) (by omega) (⟨rfl, vlo, vhi, hb, hb⟩) rfl (fun r77 w77 p77 => ?_)
    obtain ⟨rfl, rfl⟩ := p77
    dsimp only [jst]
    exact j_iret C d_S_canCompare_80 (by cases cH by1 lo hi x x <;> rfl) (⟨rfl, by rw [cmL_0 he0]⟩) (by omega) (by omega)
