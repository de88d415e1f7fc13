set_option maxHeartbeats 4000000 in
set_option maxRecDepth 100000 in
/-- isAmong: one of m values from p on is the same -/
theorem c_T_isAmong (l : Launch) (a va : Nat) (x : jv) (n : Nat) (f : Nat → Option Nat) (g : Nat → jv) (p m : Nat) : MC l y_T_isAmong b_T_isAmong 5 (some .boolean) 1 0 0
    (fun G w av => av = [.ref a, .ref va, .int (nI p), .int (nI m)] ∧ isV G w a x ∧ jh w va (eR G 5 n f) ∧ p + m ≤ n ∧ n ≤ 1000 ∧ ∀ j, p ≤ j → j < p + m → ∃ b, f j = some b ∧ isV G w b (g j))
    (fun G w av r w' => w' = w ∧ r = some (.int (bI (amg x g p m)))) := by
  refine MC.of 99 (by decide) ?_
  intro X w av hl C hnm hp
  obtain ⟨rfl, hx, hva, hpm, hn, hg⟩ := hp
  obtain ⟨ta, ha, hta⟩ := id hx
  refine ⟨[(0, _), (1, _), (2, _), (3, _)], rfl, Nat.le_of_ble_eq_true rfl, rfl, ?_⟩
  have loop : ∀ (q i : Nat), m ≤ i + q → i ≤ m → amg x g p i = false → J X (5, 99) (jQ X (fun r w' => w' = w ∧ r = some (.int (bI (amg x g p m)))) 0 0) w 0 0 3 [(0, .ref a), (1, .ref va), (2, .int (nI p)), (3, .int (nI m)), (4, .int (nI (p + i)))] [] := by
    intro q
    induction q with
    | zero =>
      intro i h1 h2 h3
      have : i = m := by omega
      subst this
      refine j_iload (t := 5) C d_T_isAmong_3 rfl rfl ?_
      refine j_iload_n (i := 2) (t := 6) C d_T_isAmong_5 rfl rfl rfl ?_
      refine j_iload_n (i := 3) (t := 7) C d_T_isAmong_6 rfl rfl rfl ?_
      refine j_iadd (t := 8) C d_T_isAmong_7 rfl ?_
      refine j_icmp_ge (tgt := 30) (t := 11) C d_T_isAmong_8 (by decide) rfl (fun h8 => ?_) (fun h8 => absurd (by rw [nI_add]; exact nI_le (Nat.le_refl _) (by omega)) h8)
      refine j_iconst (x := 0) (t := 31) C d_T_isAmong_30 rfl rfl ?_
      exact j_iret C d_T_isAmong_31 rfl (⟨rfl, by rw [h3]; rfl⟩) (by omega) (by omega)
    | succ q ih =>
      intro i h1 h2 h3
      refine j_iload (t := 5) C d_T_isAmong_3 rfl rfl ?_
      refine j_iload_n (i := 2) (t := 6) C d_T_isAmong_5 rfl rfl rfl ?_
      refine j_iload_n (i := 3) (t := 7) C d_T_isAmong_6 rfl rfl rfl ?_
      refine j_iadd (t := 8) C d_T_isAmong_7 rfl ?_
      refine j_icmp_ge (tgt := 30) (t := 11) C d_T_isAmong_8 (by decide) rfl (fun h8 => ?_) (fun h8 => ?_)
      · rw [nI_add, nI_leI (by omega) (by omega)] at h8
        have : i = m := by omega
        subst this
        refine j_iconst (x := 0) (t := 31) C d_T_isAmong_30 rfl rfl ?_
        exact j_iret C d_T_isAmong_31 rfl (⟨rfl, by rw [h3]; rfl⟩) (by omega) (by omega)
      · rw [nI_add, nI_leI (by omega) (by omega)] at h8
        obtain ⟨b, hfb, hb⟩ := hg (p + i) (by omega) (by omega)
        have hin : vp_in (nI (p + i)) n := vp_in_nI (by omega) (by omega)
        refine j_aload_n (i := 0) (t := 12) C d_T_isAmong_11 rfl rfl (by first | exact jrv_r | exact jrv_n | exact jrv_f) rfl ?_
        refine j_aload_n (i := 1) (t := 13) C d_T_isAmong_12 rfl rfl (by first | exact jrv_r | exact jrv_n | exact jrv_f) rfl ?_
        refine j_iload (t := 15) C d_T_isAmong_13 rfl rfl ?_
        refine j_aaload (t := 16) C d_T_isAmong_15 (by assumption) (by rfl) (by assumption) rfl ?_
        rw [nI_clamp (by omega), hfb]
        refine j_callV (As := [_]) (t := 19) C (c_V_order _ a b x (g (p + i))) d_T_isAmong_16 jb_V_order ml_T_188 jv_V_order (by assumption) rfl rfl rfl (Nat.le_of_ble_eq_true rfl) (by decide) (by omega) (by omega) (⟨rfl, hx, hb⟩) rfl (fun r16 w16 p16 => ?_)
        obtain ⟨rfl, i16, rfl, s16⟩ := p16
        dsimp only [jst]
        refine j_if_ne (tgt := 24) (t := 22) C d_T_isAmong_19 (by decide) rfl (fun h19 => ?_) (fun h19 => ?_)
        · refine j_iinc (y := _ + 1) (t := 27) (lv' := [(0, _), (1, _), (2, _), (3, _), (4, _)]) C d_T_isAmong_24 rfl rfl (by decide) (by decide) rfl rfl ?_
          refine j_goto (tgt := 3) C d_T_isAmong_27 (by decide) ?_
          rw [nI_1]
          exact ih (i + 1) (by omega) (by omega) (amg_next h3 (fun h => h19 (s16.2.mpr h)))
        · refine j_iconst (x := 1) (t := 23) C d_T_isAmong_22 rfl rfl ?_
          exact j_iret C d_T_isAmong_23 rfl (⟨rfl, by rw [amg_true (i := i) (by omega) (s16.2.mp h19)]; rfl⟩) (by omega) (by omega)
  refine j_iload_n (i := 2) (t := 1) C d_T_isAmong_0 rfl rfl rfl ?_
  refine j_istore (i := 4) (t := 3) (lv' := [(0, _), (1, _), (2, _), (3, _), (4, _)]) C d_T_isAmong_1 (by decide) (by decide) rfl rfl ?_
  exact loop m 0 (by omega) (Nat.zero_le _) rfl
set_option maxHeartbeats 4000000 in
set_option maxRecDepth 100000 in
/-- hasRoomFor -/
theorem c_C_hasRoomFor (l : Launch) (a : Nat) (fs : List Value) (rc n : Int32) : MC l y_C_hasRoomFor b_C_hasRoomFor 2 (some .boolean) 0 0 0
    (fun G w av => av = [.ref a, .int n] ∧ jh w a (eO cC fs) ∧ fs[2]? = some (.int rc))
    (fun G w av r w' => w' = w ∧ r = some (.int (bI (decide (1 ≤ n) && decide (n ≤ 1000 - rc))))) := by
  refine MC.of 99 (by decide) ?_
  intro X w av hl C hnm hp
  obtain ⟨rfl, ha, h2⟩ := hp
  refine ⟨[(0, _), (1, _)], rfl, Nat.le_of_ble_eq_true rfl, rfl, ?_⟩
  refine j_iload_n (i := 1) (t := 1) C d_C_hasRoomFor_0 rfl rfl rfl ?_
  refine j_iconst (x := 1) (t := 2) C d_C_hasRoomFor_1 rfl rfl ?_
  refine j_icmp_lt (tgt := 21) (t := 5) C d_C_hasRoomFor_2 (by decide) rfl (fun h2 => ?_) (fun h2 => ?_)
  · refine j_iconst (x := 0) (t := 22) C d_C_hasRoomFor_21 rfl rfl ?_
    exact j_iret C d_C_hasRoomFor_22 rfl (⟨rfl, by simp_all [-Int32.not_lt, -Int32.not_le, bI, i_lt]⟩) (by omega) (by omega)
  · refine j_iload_n (i := 1) (t := 6) C d_C_hasRoomFor_5 rfl rfl rfl ?_
    refine j_sipush (x := 1000) (t := 9) C d_C_hasRoomFor_6 rfl rfl ?_
    refine j_aload_n (i := 0) (t := 10) C d_C_hasRoomFor_9 rfl rfl (by first | exact jrv_r | exact jrv_n | exact jrv_f) rfl ?_
    refine j_get (t := 13) C fl_C_17 d_C_hasRoomFor_10 (by assumption) (by first | rfl | assumption) rfl ?_
    refine j_isub (t := 14) C d_C_hasRoomFor_13 rfl ?_
    refine j_icmp_gt (tgt := 21) (t := 17) C d_C_hasRoomFor_14 (by decide) rfl (fun h14 => ?_) (fun h14 => ?_)
    · refine j_iconst (x := 0) (t := 22) C d_C_hasRoomFor_21 rfl rfl ?_
      exact j_iret C d_C_hasRoomFor_22 rfl (⟨rfl, by simp_all [-Int32.not_lt, -Int32.not_le, bI, i_lt]⟩) (by omega) (by omega)
    · refine j_iconst (x := 1) (t := 18) C d_C_hasRoomFor_17 rfl rfl ?_
      refine j_goto (tgt := 22) C d_C_hasRoomFor_18 (by decide) ?_
      exact j_iret C d_C_hasRoomFor_22 rfl (⟨rfl, by simp_all [-Int32.not_lt, -Int32.not_le, bI, i_lt]⟩) (by omega) (by omega)

set_option maxHeartbeats 4000000 in
set_option maxRecDepth 100000 in
/-- hasRoomForBytes -/
theorem c_C_hasRoomForBytes (l : Launch) (a : Nat) (fs : List Value) (tb n : Int32) : MC l y_C_hasRoomForBytes b_C_hasRoomForBytes 2 (some .boolean) 0 0 0
    (fun G w av => av = [.ref a, .int n] ∧ jh w a (eO cC fs) ∧ fs[3]? = some (.int tb))
    (fun G w av r w' => w' = w ∧ r = some (.int (bI (decide (n ≤ 8000 - tb))))) := by
  refine MC.of 99 (by decide) ?_
  intro X w av hl C hnm hp
  obtain ⟨rfl, ha, h3⟩ := hp
  refine ⟨[(0, _), (1, _)], rfl, Nat.le_of_ble_eq_true rfl, rfl, ?_⟩
  refine j_iload_n (i := 1) (t := 1) C d_C_hasRoomForBytes_0 rfl rfl rfl ?_
  refine j_sipush (x := 8000) (t := 4) C d_C_hasRoomForBytes_1 rfl rfl ?_
  refine j_aload_n (i := 0) (t := 5) C d_C_hasRoomForBytes_4 rfl rfl (by first | exact jrv_r | exact jrv_n | exact jrv_f) rfl ?_
  refine j_get (t := 8) C fl_C_21 d_C_hasRoomForBytes_5 (by assumption) (by first | rfl | assumption) rfl ?_
  refine j_isub (t := 9) C d_C_hasRoomForBytes_8 rfl ?_
  refine j_icmp_gt (tgt := 16) (t := 12) C d_C_hasRoomForBytes_9 (by decide) rfl (fun h9 => ?_) (fun h9 => ?_)
  · refine j_iconst (x := 0) (t := 17) C d_C_hasRoomForBytes_16 rfl rfl ?_
    exact j_iret C d_C_hasRoomForBytes_17 rfl (⟨rfl, by simp_all [-Int32.not_lt, -Int32.not_le, bI, i_lt]⟩) (by omega) (by omega)
  · refine j_iconst (x := 1) (t := 13) C d_C_hasRoomForBytes_12 rfl rfl ?_
    refine j_goto (tgt := 17) C d_C_hasRoomForBytes_13 (by decide) ?_
    exact j_iret C d_C_hasRoomForBytes_17 rfl (⟨rfl, by simp_all [-Int32.not_lt, -Int32.not_le, bI, i_lt]⟩) (by omega) (by omega)

set_option maxHeartbeats 4000000 in
set_option maxRecDepth 100000 in
/-- mayMiss -/
theorem c_C_mayMiss (l : Launch) (a : Nat) (fs : List Value) (km : Int32) : MC l y_C_mayMiss b_C_mayMiss 1 (some .boolean) 0 0 0
    (fun G w av => av = [.ref a] ∧ jh w a (eO cC fs) ∧ fs[6]? = some (.int km))
    (fun G w av r w' => w' = w ∧ r = some (.int (bI (decide (0 < km))))) := by
  refine MC.of 99 (by decide) ?_
  intro X w av hl C hnm hp
  obtain ⟨rfl, ha, h6⟩ := hp
  refine ⟨[(0, _)], rfl, Nat.le_of_ble_eq_true rfl, rfl, ?_⟩
  refine j_aload_n (i := 0) (t := 1) C d_C_mayMiss_0 rfl rfl (by first | exact jrv_r | exact jrv_n | exact jrv_f) rfl ?_
  refine j_get (t := 4) C fl_C_31 d_C_mayMiss_1 (by assumption) (by first | rfl | assumption) rfl ?_
  refine j_if_le (tgt := 11) (t := 7) C d_C_mayMiss_4 (by decide) rfl (fun h4 => ?_) (fun h4 => ?_)
  · refine j_iconst (x := 0) (t := 12) C d_C_mayMiss_11 rfl rfl ?_
    exact j_iret C d_C_mayMiss_12 rfl (⟨rfl, by simp_all [-Int32.not_lt, -Int32.not_le, bI, i_lt]⟩) (by omega) (by omega)
  · refine j_iconst (x := 1) (t := 8) C d_C_mayMiss_7 rfl rfl ?_
    refine j_goto (tgt := 12) C d_C_mayMiss_8 (by decide) ?_
    exact j_iret C d_C_mayMiss_12 rfl (⟨rfl, by simp_all [-Int32.not_lt, -Int32.not_le, bI, i_lt]⟩) (by omega) (by omega)

set_option maxHeartbeats 4000000 in
set_option maxRecDepth 100000 in
/-- mayHaveValues -/
theorem c_C_mayHaveValues (l : Launch) (a : Nat) (fs : List Value) (kr km : Int32) (lo hi : Option Nat) : MC l y_C_mayHaveValues b_C_mayHaveValues 1 (some .boolean) 0 0 0
    (fun G w av => av = [.ref a] ∧ jh w a (eO cC fs) ∧ fs[5]? = some (.int kr) ∧ fs[6]? = some (.int km) ∧ fs[7]? = some (va_rf lo) ∧ fs[8]? = some (va_rf hi))
    (fun G w av r w' => w' = w ∧ r = some (.int (bI (decide (km < kr) && lo.isSome && hi.isSome)))) := by
  refine MC.of 99 (by decide) ?_
  intro X w av hl C hnm hp
  obtain ⟨rfl, ha, h5, h6, h7, h8⟩ := hp
  refine ⟨[(0, _)], rfl, Nat.le_of_ble_eq_true rfl, rfl, ?_⟩
  refine j_aload_n (i := 0) (t := 1) C d_C_mayHaveValues_0 rfl rfl (by first | exact jrv_r | exact jrv_n | exact jrv_f) rfl ?_
  refine j_get (t := 4) C fl_C_31 d_C_mayHaveValues_1 (by assumption) (by first | rfl | assumption) rfl ?_
  refine j_aload_n (i := 0) (t := 5) C d_C_mayHaveValues_4 rfl rfl (by first | exact jrv_r | exact jrv_n | exact jrv_f) rfl ?_
  refine j_get (t := 8) C fl_C_28 d_C_mayHaveValues_5 (by assumption) (by first | rfl | assumption) rfl ?_
  refine j_icmp_ge (tgt := 29) (t := 11) C d_C_mayHaveValues_8 (by decide) rfl (fun h8 => ?_) (fun h8 => ?_)
  · refine j_iconst (x := 0) (t := 30) C d_C_mayHaveValues_29 rfl rfl ?_
    exact j_iret C d_C_mayHaveValues_30 rfl (⟨rfl, by simp_all [-Int32.not_lt, -Int32.not_le, bI, i_lt]⟩) (by omega) (by omega)
  · refine j_aload_n (i := 0) (t := 12) C d_C_mayHaveValues_11 rfl rfl (by first | exact jrv_r | exact jrv_n | exact jrv_f) rfl ?_
    refine j_get (t := 15) C fl_C_34 d_C_mayHaveValues_12 (by assumption) (by first | rfl | assumption) rfl ?_
    refine j_ifnull (tgt := 29) (t := 18) C d_C_mayHaveValues_15 (by decide) rfl (fun h15 => ?_) (fun a15 h15 => ?_)
    · refine j_iconst (x := 0) (t := 30) C d_C_mayHaveValues_29 rfl rfl ?_
      exact j_iret C d_C_mayHaveValues_30 rfl (⟨rfl, by simp_all [-Int32.not_lt, -Int32.not_le, bI, i_lt]⟩) (by omega) (by omega)
    · refine j_aload_n (i := 0) (t := 19) C d_C_mayHaveValues_18 rfl rfl (by first | exact jrv_r | exact jrv_n | exact jrv_f) rfl ?_
      refine j_get (t := 22) C fl_C_38 d_C_mayHaveValues_19 (by assumption) (by first | rfl | assumption) rfl ?_
      refine j_ifnull (tgt := 29) (t := 25) C d_C_mayHaveValues_22 (by decide) rfl (fun h22 => ?_) (fun a22 h22 => ?_)
      · refine j_iconst (x := 0) (t := 30) C d_C_mayHaveValues_29 rfl rfl ?_
        exact j_iret C d_C_mayHaveValues_30 rfl (⟨rfl, by simp_all [-Int32.not_lt, -Int32.not_le, bI, i_lt]⟩) (by omega) (by omega)
      · refine j_iconst (x := 1) (t := 26) C d_C_mayHaveValues_25 rfl rfl ?_
        refine j_goto (tgt := 30) C d_C_mayHaveValues_26 (by decide) ?_
        exact j_iret C d_C_mayHaveValues_30 rfl (⟨rfl, by simp_all [-Int32.not_lt, -Int32.not_le, bI, i_lt]⟩) (by omega) (by omega)

set_option maxHeartbeats 4000000 in
set_option maxRecDepth 100000 in
/-- valueAt -/
theorem c_C_valueAt (l : Launch) (a ra : Nat) (fs : List Value) (rc : Nat) (f : Nat → Option Nat) (x : Int32) : MC l y_C_valueAt b_C_valueAt 2 (some (.object RV)) 0 0 0
    (fun G w av => av = [.ref a, .int x] ∧ jh w a (eO cC fs) ∧ fs[1]? = some (.ref ra) ∧ fs[2]? = some (.int (nI rc)) ∧ jh w ra (eR G 5 1000 f) ∧ rc ≤ 1000)
    (fun G w av r w' => w' = w ∧ r = some (va_rf (vAt f rc x))) := by
  refine MC.of 99 (by decide) ?_
  intro X w av hl C hnm hp
  obtain ⟨rfl, ha, hf1, hf2, hra, hrc⟩ := hp
  refine ⟨[(0, _), (1, _)], rfl, Nat.le_of_ble_eq_true rfl, rfl, ?_⟩
  refine j_iload_n (i := 1) (t := 1) C d_C_valueAt_0 rfl rfl rfl ?_
  refine j_if_lt (tgt := 12) (t := 4) C d_C_valueAt_1 (by decide) rfl (fun h1 => ?_) (fun h1 => ?_)
  · refine j_null (t := 13) C d_C_valueAt_12 rfl ?_
    refine j_goto (tgt := 22) C d_C_valueAt_13 (by decide) ?_
    exact j_aret C d_C_valueAt_22 (by first | exact Or.inl ⟨_, rfl⟩ | exact Or.inr ⟨_, rfl⟩) (by first | exact jrv_r | exact jrv_n | exact jrv_f) (by first | exact ⟨rfl, congrArg some (vAt_in (by simpa using h1) h9).symm⟩ | exact ⟨rfl, congrArg some (vAt_out (Or.inl h1)).symm⟩ | exact ⟨rfl, congrArg some (vAt_out (Or.inr h9)).symm⟩) (by omega) (by omega)
  · refine j_iload_n (i := 1) (t := 5) C d_C_valueAt_4 rfl rfl rfl ?_
    refine j_aload_n (i := 0) (t := 6) C d_C_valueAt_5 rfl rfl (by first | exact jrv_r | exact jrv_n | exact jrv_f) rfl ?_
    refine j_get (t := 9) C fl_C_17 d_C_valueAt_6 (by assumption) (by first | rfl | assumption) rfl ?_
    refine j_icmp_lt (tgt := 16) (t := 12) C d_C_valueAt_9 (by decide) rfl (fun h9 => ?_) (fun h9 => ?_)
    · have hin : vp_in x 1000 := by
        rw [vp_in_iff]
        rw [Int32.lt_iff_toInt_lt, Int32.toInt_zero] at h1
        rw [Int32.lt_iff_toInt_lt, nI_toInt (by omega)] at h9
        omega
      refine j_aload_n (i := 0) (t := 17) C d_C_valueAt_16 rfl rfl (by first | exact jrv_r | exact jrv_n | exact jrv_f) rfl ?_
      refine j_get (t := 20) C fl_C_11 d_C_valueAt_17 (by assumption) (by first | rfl | assumption) rfl ?_
      refine j_iload_n (i := 1) (t := 21) C d_C_valueAt_20 rfl rfl rfl ?_
      refine j_aaload (t := 22) C d_C_valueAt_21 (by assumption) (by rfl) (by assumption) rfl ?_
      exact j_aret C d_C_valueAt_22 (by first | exact Or.inl ⟨_, rfl⟩ | exact Or.inr ⟨_, rfl⟩) (by first | exact jrv_r | exact jrv_n | exact jrv_f) (by first | exact ⟨rfl, congrArg some (vAt_in (by simpa using h1) h9).symm⟩ | exact ⟨rfl, congrArg some (vAt_out (Or.inl h1)).symm⟩ | exact ⟨rfl, congrArg some (vAt_out (Or.inr h9)).symm⟩) (by omega) (by omega)
    · refine j_null (t := 13) C d_C_valueAt_12 rfl ?_
      refine j_goto (tgt := 22) C d_C_valueAt_13 (by decide) ?_
      exact j_aret C d_C_valueAt_22 (by first | exact Or.inl ⟨_, rfl⟩ | exact Or.inr ⟨_, rfl⟩) (by first | exact jrv_r | exact jrv_n | exact jrv_f) (by first | exact ⟨rfl, congrArg some (vAt_in (by simpa using h1) h9).symm⟩ | exact ⟨rfl, congrArg some (vAt_out (Or.inl h1)).symm⟩ | exact ⟨rfl, congrArg some (vAt_out (Or.inr h9)).symm⟩) (by omega) (by omega)

set_option maxHeartbeats 4000000 in
set_option maxRecDepth 100000 in
/-- columnAt -/
theorem c_T_columnAt (l : Launch) (a ra : Nat) (fs : List Value) (rc : Nat) (f : Nat → Option Nat) (x : Int32) : MC l y_T_columnAt b_T_columnAt 2 (some (.object RC)) 0 0 0
    (fun G w av => av = [.ref a, .int x] ∧ jh w a (eO cT fs) ∧ fs[0]? = some (.ref ra) ∧ fs[1]? = some (.int (nI rc)) ∧ jh w ra (eR G 4 16 f) ∧ rc ≤ 16)
    (fun G w av r w' => w' = w ∧ r = some (va_rf (vAt f rc x))) := by
  refine MC.of 99 (by decide) ?_
  intro X w av hl C hnm hp
  obtain ⟨rfl, ha, hf1, hf2, hra, hrc⟩ := hp
  refine ⟨[(0, _), (1, _)], rfl, Nat.le_of_ble_eq_true rfl, rfl, ?_⟩
  refine j_iload_n (i := 1) (t := 1) C d_T_columnAt_0 rfl rfl rfl ?_
  refine j_if_lt (tgt := 12) (t := 4) C d_T_columnAt_1 (by decide) rfl (fun h1 => ?_) (fun h1 => ?_)
  · refine j_null (t := 13) C d_T_columnAt_12 rfl ?_
    refine j_goto (tgt := 22) C d_T_columnAt_13 (by decide) ?_
    exact j_aret C d_T_columnAt_22 (by first | exact Or.inl ⟨_, rfl⟩ | exact Or.inr ⟨_, rfl⟩) (by first | exact jrv_r | exact jrv_n | exact jrv_f) (by first | exact ⟨rfl, congrArg some (vAt_in (by simpa using h1) h9).symm⟩ | exact ⟨rfl, congrArg some (vAt_out (Or.inl h1)).symm⟩ | exact ⟨rfl, congrArg some (vAt_out (Or.inr h9)).symm⟩) (by omega) (by omega)
  · refine j_iload_n (i := 1) (t := 5) C d_T_columnAt_4 rfl rfl rfl ?_
    refine j_aload_n (i := 0) (t := 6) C d_T_columnAt_5 rfl rfl (by first | exact jrv_r | exact jrv_n | exact jrv_f) rfl ?_
    refine j_get (t := 9) C fl_T_15 d_T_columnAt_6 (by assumption) (by first | rfl | assumption) rfl ?_
    refine j_icmp_lt (tgt := 16) (t := 12) C d_T_columnAt_9 (by decide) rfl (fun h9 => ?_) (fun h9 => ?_)
    · have hin : vp_in x 16 := by
        rw [vp_in_iff]
        rw [Int32.lt_iff_toInt_lt, Int32.toInt_zero] at h1
        rw [Int32.lt_iff_toInt_lt, nI_toInt (by omega)] at h9
        omega
      refine j_aload_n (i := 0) (t := 17) C d_T_columnAt_16 rfl rfl (by first | exact jrv_r | exact jrv_n | exact jrv_f) rfl ?_
      refine j_get (t := 20) C fl_T_11 d_T_columnAt_17 (by assumption) (by first | rfl | assumption) rfl ?_
      refine j_iload_n (i := 1) (t := 21) C d_T_columnAt_20 rfl rfl rfl ?_
      refine j_aaload (t := 22) C d_T_columnAt_21 (by assumption) (by rfl) (by assumption) rfl ?_
      exact j_aret C d_T_columnAt_22 (by first | exact Or.inl ⟨_, rfl⟩ | exact Or.inr ⟨_, rfl⟩) (by first | exact jrv_r | exact jrv_n | exact jrv_f) (by first | exact ⟨rfl, congrArg some (vAt_in (by simpa using h1) h9).symm⟩ | exact ⟨rfl, congrArg some (vAt_out (Or.inl h1)).symm⟩ | exact ⟨rfl, congrArg some (vAt_out (Or.inr h9)).symm⟩) (by omega) (by omega)
    · refine j_null (t := 13) C d_T_columnAt_12 rfl ?_
      refine j_goto (tgt := 22) C d_T_columnAt_13 (by decide) ?_
      exact j_aret C d_T_columnAt_22 (by first | exact Or.inl ⟨_, rfl⟩ | exact Or.inr ⟨_, rfl⟩) (by first | exact jrv_r | exact jrv_n | exact jrv_f) (by first | exact ⟨rfl, congrArg some (vAt_in (by simpa using h1) h9).symm⟩ | exact ⟨rfl, congrArg some (vAt_out (Or.inl h1)).symm⟩ | exact ⟨rfl, congrArg some (vAt_out (Or.inr h9)).symm⟩) (by omega) (by omega)

set_option maxHeartbeats 4000000 in
set_option maxRecDepth 100000 in
/-- isOnTape -/
theorem c_T_isOnTape (l : Launch) (a : Nat) (fs : List Value) (tn x : Int32) : MC l y_T_isOnTape b_T_isOnTape 2 (some .boolean) 0 0 0
    (fun G w av => av = [.ref a, .int x] ∧ jh w a (eO cT fs) ∧ fs[3]? = some (.int tn))
    (fun G w av r w' => w' = w ∧ r = some (.int (bI (decide (0 ≤ x) && decide (x ≤ tn))))) := by
  refine MC.of 99 (by decide) ?_
  intro X w av hl C hnm hp
  obtain ⟨rfl, ha, h3⟩ := hp
  refine ⟨[(0, _), (1, _)], rfl, Nat.le_of_ble_eq_true rfl, rfl, ?_⟩
  refine j_iload_n (i := 1) (t := 1) C d_T_isOnTape_0 rfl rfl rfl ?_
  refine j_if_lt (tgt := 16) (t := 4) C d_T_isOnTape_1 (by decide) rfl (fun h1 => ?_) (fun h1 => ?_)
  · refine j_iconst (x := 0) (t := 17) C d_T_isOnTape_16 rfl rfl ?_
    exact j_iret C d_T_isOnTape_17 rfl (⟨rfl, by simp_all [-Int32.not_lt, -Int32.not_le, bI, i_lt]⟩) (by omega) (by omega)
  · refine j_iload_n (i := 1) (t := 5) C d_T_isOnTape_4 rfl rfl rfl ?_
    refine j_aload_n (i := 0) (t := 6) C d_T_isOnTape_5 rfl rfl (by first | exact jrv_r | exact jrv_n | exact jrv_f) rfl ?_
    refine j_get (t := 9) C fl_T_23 d_T_isOnTape_6 (by assumption) (by first | rfl | assumption) rfl ?_
    refine j_icmp_gt (tgt := 16) (t := 12) C d_T_isOnTape_9 (by decide) rfl (fun h9 => ?_) (fun h9 => ?_)
    · refine j_iconst (x := 0) (t := 17) C d_T_isOnTape_16 rfl rfl ?_
      exact j_iret C d_T_isOnTape_17 rfl (⟨rfl, by simp_all [-Int32.not_lt, -Int32.not_le, bI, i_lt]⟩) (by omega) (by omega)
    · refine j_iconst (x := 1) (t := 13) C d_T_isOnTape_12 rfl rfl ?_
      refine j_goto (tgt := 17) C d_T_isOnTape_13 (by decide) ?_
      exact j_iret C d_T_isOnTape_17 rfl (⟨rfl, by simp_all [-Int32.not_lt, -Int32.not_le, bI, i_lt]⟩) (by omega) (by omega)

set_option maxHeartbeats 4000000 in
set_option maxRecDepth 100000 in
/-- takes -/
theorem c_S_takes (l : Launch) (a : Nat) (fs : List Value) (kd : Int32) : MC l y_S_takes b_S_takes 1 (some .int) 0 0 0
    (fun G w av => av = [.ref a] ∧ jh w a (eO cS fs) ∧ fs[0]? = some (.int kd))
    (fun G w av r w' => w' = w ∧ r = some (.int (tkI kd))) := by
  refine MC.of 99 (by decide) ?_
  intro X w av hl C hnm hp
  obtain ⟨rfl, ha, h0⟩ := hp
  refine ⟨[(0, _)], rfl, Nat.le_of_ble_eq_true rfl, rfl, ?_⟩
  refine j_aload_n (i := 0) (t := 1) C d_S_takes_0 rfl rfl (by first | exact jrv_r | exact jrv_n | exact jrv_f) rfl ?_
  refine j_get (t := 4) C fl_S_9 d_S_takes_1 (by assumption) (by first | rfl | assumption) rfl ?_
  refine j_iconst (x := 5) (t := 5) C d_S_takes_4 rfl rfl ?_
  refine j_icmp_ge (tgt := 12) (t := 8) C d_S_takes_5 (by decide) rfl (fun h5 => ?_) (fun h5 => ?_)
  · refine j_aload_n (i := 0) (t := 13) C d_S_takes_12 rfl rfl (by first | exact jrv_r | exact jrv_n | exact jrv_f) rfl ?_
    refine j_get (t := 16) C fl_S_9 d_S_takes_13 (by assumption) (by first | rfl | assumption) rfl ?_
    refine j_iconst (x := 5) (t := 17) C d_S_takes_16 rfl rfl ?_
    refine j_icmp_ne (tgt := 24) (t := 20) C d_S_takes_17 (by decide) rfl (fun h17 => ?_) (fun h17 => ?_)
    · refine j_iconst (x := 2) (t := 25) C d_S_takes_24 rfl rfl ?_
      exact j_iret C d_S_takes_25 rfl (⟨rfl, by simp_all [-Int32.not_lt, -Int32.not_le, tkI, i_lt]⟩) (by omega) (by omega)
    · refine j_iconst (x := 1) (t := 21) C d_S_takes_20 rfl rfl ?_
      refine j_goto (tgt := 25) C d_S_takes_21 (by decide) ?_
      exact j_iret C d_S_takes_25 rfl (⟨rfl, by simp_all [-Int32.not_lt, -Int32.not_le, tkI, i_lt]⟩) (by omega) (by omega)
  · refine j_iconst (x := 0) (t := 9) C d_S_takes_8 rfl rfl ?_
    refine j_goto (tgt := 25) C d_S_takes_9 (by decide) ?_
    exact j_iret C d_S_takes_25 rfl (⟨rfl, by simp_all [-Int32.not_lt, -Int32.not_le, tkI, i_lt]⟩) (by omega) (by omega)
