set_option maxHeartbeats 4000000 in
set_option maxRecDepth 100000 in
/-- valueOfOther -/
theorem c_S_valueOfOther (l : Launch) (a cb : Nat) (fs : List Value) (r1 : Nat) (f : Nat → Option Nat) : MC l y_S_valueOfOther b_S_valueOfOther 2 (some (.object RV)) 1 0 0
    (fun G w av => av = [.ref a, .int (nI r1)] ∧ jh w a (eO cS fs) ∧ fs[3]? = some (va_rf (some cb)) ∧ isR G w cb r1 f)
    (fun G w av r w' => w' = w ∧ r = some (va_rf (f r1))) := by
  refine MC.of 99 (by decide) ?_
  intro X w av hl C hnm hp
  obtain ⟨rfl, ha, h3, cfs, ra, rc, hcb, hf1, hf2, hra, hr1, hrc⟩ := hp
  refine ⟨[(0, _), (1, _)], rfl, Nat.le_of_ble_eq_true rfl, rfl, ?_⟩
  refine j_aload_n (i := 0) (t := 1) C d_S_valueOfOther_0 rfl rfl (by first | exact jrv_r | exact jrv_n | exact jrv_f) rfl ?_
  refine j_get (t := 4) C fl_S_22 d_S_valueOfOther_1 (by assumption) (by first | rfl | assumption) rfl ?_
  refine j_ifnonnull (tgt := 11) (t := 7) C d_S_valueOfOther_4 (by decide) rfl (fun a4 h4 => ?_) (fun h4 => absurd h4 (by simp))
  refine j_aload_n (i := 0) (t := 12) C d_S_valueOfOther_11 rfl rfl (by first | exact jrv_r | exact jrv_n | exact jrv_f) rfl ?_
  refine j_get (t := 15) C fl_S_22 d_S_valueOfOther_12 (by assumption) (by first | rfl | assumption) rfl ?_
  refine j_iload_n (i := 1) (t := 16) C d_S_valueOfOther_15 rfl rfl rfl ?_
  refine j_callV (As := [_]) (t := 19) C (c_C_valueAt _ cb _ _ _ f (nI r1)) d_S_valueOfOther_16 jb_C_valueAt ml_S_35 jv_C_valueAt (by assumption) rfl rfl rfl (Nat.le_of_ble_eq_true rfl) (by decide) (by omega) (by omega) (⟨rfl, by assumption, by assumption, by assumption, by assumption, by assumption⟩) rfl (fun r16 w16 p16 => ?_)
  obtain ⟨rfl, rfl⟩ := p16
  dsimp only [jst]
  rw [vAt_nI (by assumption) (by assumption)]
  exact j_aret C d_S_valueOfOther_19 (by first | exact Or.inl ⟨_, rfl⟩ | exact Or.inr ⟨_, rfl⟩) (by first | exact jrv_r | exact jrv_n | exact jrv_f) (⟨rfl, rfl⟩) (by omega) (by omega)

set_option maxHeartbeats 4000000 in
set_option maxRecDepth 100000 in
/-- atRow, kind 0 -/
theorem c_S_atRow_0 (l : Launch) (a ca : Nat) (op : Int32) (oth : Option Nat) (al : Nat) (fi mn : Int32) (r1 : Nat) (f : Nat → Option Nat) (v1 : Option jv) : MC l y_S_atRow b_S_atRow 4 (some .int) 2 0 0
    (fun G w av => av = [.ref a, .int (nI r1)] ∧ jh w a (eO cS [.int 0, va_rf (some ca), .int op, va_rf oth, .ref al, .int fi, .int mn]) ∧ isR G w ca r1 f ∧ isO G w (f r1) v1)
    (fun G w av r w' => w' = w ∧ r = some (.int (if v1 = none then 2 else 1))) := by
  refine MC.of 99 (by decide) ?_
  intro X w av hl C hnm hp
  obtain ⟨rfl, ha, ⟨cfs, ra, rc, hca, hf1, hf2, hra, hr1, hrc⟩, hO⟩ := hp
  refine ⟨[(0, _), (1, _)], rfl, Nat.le_of_ble_eq_true rfl, rfl, ?_⟩
  refine j_aload_n (i := 0) (t := 1) C d_S_atRow_0 rfl rfl (by first | exact jrv_r | exact jrv_n | exact jrv_f) rfl ?_
  refine j_get (t := 4) C fl_S_15 d_S_atRow_1 (by assumption) (by first | rfl | assumption) rfl ?_
  refine j_ifnonnull (tgt := 11) (t := 7) C d_S_atRow_4 (by decide) rfl (fun a4 h4 => ?_) (fun h4 => absurd h4 (by simp))
  refine j_aload_n (i := 0) (t := 12) C d_S_atRow_11 rfl rfl (by first | exact jrv_r | exact jrv_n | exact jrv_f) rfl ?_
  refine j_get (t := 15) C fl_S_15 d_S_atRow_12 (by assumption) (by first | rfl | assumption) rfl ?_
  refine j_iload_n (i := 1) (t := 16) C d_S_atRow_15 rfl rfl rfl ?_
  refine j_callV (As := [_]) (t := 19) C (c_C_valueAt _ ca _ _ _ f (nI r1)) d_S_atRow_16 jb_C_valueAt ml_S_35 jv_C_valueAt (by assumption) rfl rfl rfl (Nat.le_of_ble_eq_true rfl) (by decide) (by omega) (by omega) (⟨rfl, by assumption, by assumption, by assumption, by assumption, by assumption⟩) rfl (fun r16 w16 p16 => ?_)
  obtain ⟨rfl, rfl⟩ := p16
  dsimp only [jst]
  rw [vAt_nI (by assumption) (by assumption)]
  refine j_astore_n (i := 2) (t := 20) (lv' := [(0, _), (1, _), (2, _)]) C d_S_atRow_19 rfl (by first | exact jrv_r | exact jrv_n | exact jrv_f) (by decide) (by decide) rfl rfl ?_
  refine j_aload_n (i := 0) (t := 21) C d_S_atRow_20 rfl rfl (by first | exact jrv_r | exact jrv_n | exact jrv_f) rfl ?_
  refine j_get (t := 24) C fl_S_9 d_S_atRow_21 (by assumption) (by first | rfl | assumption) rfl ?_
  refine j_if_eq (tgt := 35) (t := 27) C d_S_atRow_24 (by decide) rfl (fun h24 => ?_) (fun h24 => absurd h24 (by decide))
  refine j_aload_n (i := 2) (t := 36) C d_S_atRow_35 rfl rfl (by first | exact jrv_r | exact jrv_n | exact jrv_f) rfl ?_
  refine j_ifnonnull (tgt := 43) (t := 39) C d_S_atRow_36 (by decide) rfl (fun a36 h36 => ?_) (fun h36 => ?_)
  · rw [h36] at hO
    obtain ⟨x, rfl, hx⟩ := hO
    refine j_iconst (x := 0) (t := 44) C d_S_atRow_43 rfl rfl ?_
    refine j_aload_n (i := 0) (t := 45) C d_S_atRow_44 rfl rfl (by first | exact jrv_r | exact jrv_n | exact jrv_f) rfl ?_
    refine j_get (t := 48) C fl_S_9 d_S_atRow_45 (by assumption) (by first | rfl | assumption) rfl ?_
    refine j_if_ne (tgt := 55) (t := 51) C d_S_atRow_48 (by decide) rfl (fun h48 => absurd h48 (by decide)) (fun h48 => ?_)
    refine j_iconst (x := 1) (t := 52) C d_S_atRow_51 rfl rfl ?_
    refine j_goto (tgt := 56) C d_S_atRow_52 (by decide) ?_
    refine j_icmp_ne (tgt := 63) (t := 59) C d_S_atRow_56 (by decide) rfl (fun h56 => ?_) (fun h56 => ?_)
    · refine j_iconst (x := 1) (t := 64) C d_S_atRow_63 rfl rfl ?_
      exact j_iret C d_S_atRow_64 rfl (⟨rfl, by simp_all⟩) (by omega) (by omega)
    · refine j_iconst (x := 2) (t := 60) C d_S_atRow_59 rfl rfl ?_
      refine j_goto (tgt := 64) C d_S_atRow_60 (by decide) ?_
      exact j_iret C d_S_atRow_64 rfl (⟨rfl, by simp_all⟩) (by omega) (by omega)
  · rw [h36] at hO
    obtain rfl := hO
    refine j_iconst (x := 1) (t := 40) C d_S_atRow_39 rfl rfl ?_
    refine j_goto (tgt := 44) C d_S_atRow_40 (by decide) ?_
    refine j_aload_n (i := 0) (t := 45) C d_S_atRow_44 rfl rfl (by first | exact jrv_r | exact jrv_n | exact jrv_f) rfl ?_
    refine j_get (t := 48) C fl_S_9 d_S_atRow_45 (by assumption) (by first | rfl | assumption) rfl ?_
    refine j_if_ne (tgt := 55) (t := 51) C d_S_atRow_48 (by decide) rfl (fun h48 => absurd h48 (by decide)) (fun h48 => ?_)
    refine j_iconst (x := 1) (t := 52) C d_S_atRow_51 rfl rfl ?_
    refine j_goto (tgt := 56) C d_S_atRow_52 (by decide) ?_
    refine j_icmp_ne (tgt := 63) (t := 59) C d_S_atRow_56 (by decide) rfl (fun h56 => ?_) (fun h56 => ?_)
    · refine j_iconst (x := 1) (t := 64) C d_S_atRow_63 rfl rfl ?_
      exact j_iret C d_S_atRow_64 rfl (⟨rfl, by simp_all⟩) (by omega) (by omega)
    · refine j_iconst (x := 2) (t := 60) C d_S_atRow_59 rfl rfl ?_
      refine j_goto (tgt := 64) C d_S_atRow_60 (by decide) ?_
      exact j_iret C d_S_atRow_64 rfl (⟨rfl, by simp_all⟩) (by omega) (by omega)

set_option maxHeartbeats 4000000 in
set_option maxRecDepth 100000 in
/-- atRow, kind 1 -/
theorem c_S_atRow_1 (l : Launch) (a ca : Nat) (op : Int32) (oth : Option Nat) (al : Nat) (fi mn : Int32) (r1 : Nat) (f : Nat → Option Nat) (v1 : Option jv) : MC l y_S_atRow b_S_atRow 4 (some .int) 2 0 0
    (fun G w av => av = [.ref a, .int (nI r1)] ∧ jh w a (eO cS [.int 1, va_rf (some ca), .int op, va_rf oth, .ref al, .int fi, .int mn]) ∧ isR G w ca r1 f ∧ isO G w (f r1) v1)
    (fun G w av r w' => w' = w ∧ r = some (.int (if v1 = none then 1 else 2))) := by
  refine MC.of 99 (by decide) ?_
  intro X w av hl C hnm hp
  obtain ⟨rfl, ha, ⟨cfs, ra, rc, hca, hf1, hf2, hra, hr1, hrc⟩, hO⟩ := hp
  refine ⟨[(0, _), (1, _)], rfl, Nat.le_of_ble_eq_true rfl, rfl, ?_⟩
  refine j_aload_n (i := 0) (t := 1) C d_S_atRow_0 rfl rfl (by first | exact jrv_r | exact jrv_n | exact jrv_f) rfl ?_
  refine j_get (t := 4) C fl_S_15 d_S_atRow_1 (by assumption) (by first | rfl | assumption) rfl ?_
  refine j_ifnonnull (tgt := 11) (t := 7) C d_S_atRow_4 (by decide) rfl (fun a4 h4 => ?_) (fun h4 => absurd h4 (by simp))
  refine j_aload_n (i := 0) (t := 12) C d_S_atRow_11 rfl rfl (by first | exact jrv_r | exact jrv_n | exact jrv_f) rfl ?_
  refine j_get (t := 15) C fl_S_15 d_S_atRow_12 (by assumption) (by first | rfl | assumption) rfl ?_
  refine j_iload_n (i := 1) (t := 16) C d_S_atRow_15 rfl rfl rfl ?_
  refine j_callV (As := [_]) (t := 19) C (c_C_valueAt _ ca _ _ _ f (nI r1)) d_S_atRow_16 jb_C_valueAt ml_S_35 jv_C_valueAt (by assumption) rfl rfl rfl (Nat.le_of_ble_eq_true rfl) (by decide) (by omega) (by omega) (⟨rfl, by assumption, by assumption, by assumption, by assumption, by assumption⟩) rfl (fun r16 w16 p16 => ?_)
  obtain ⟨rfl, rfl⟩ := p16
  dsimp only [jst]
  rw [vAt_nI (by assumption) (by assumption)]
  refine j_astore_n (i := 2) (t := 20) (lv' := [(0, _), (1, _), (2, _)]) C d_S_atRow_19 rfl (by first | exact jrv_r | exact jrv_n | exact jrv_f) (by decide) (by decide) rfl rfl ?_
  refine j_aload_n (i := 0) (t := 21) C d_S_atRow_20 rfl rfl (by first | exact jrv_r | exact jrv_n | exact jrv_f) rfl ?_
  refine j_get (t := 24) C fl_S_9 d_S_atRow_21 (by assumption) (by first | rfl | assumption) rfl ?_
  refine j_if_eq (tgt := 35) (t := 27) C d_S_atRow_24 (by decide) rfl (fun h24 => absurd h24 (by decide)) (fun h24 => ?_)
  refine j_aload_n (i := 0) (t := 28) C d_S_atRow_27 rfl rfl (by first | exact jrv_r | exact jrv_n | exact jrv_f) rfl ?_
  refine j_get (t := 31) C fl_S_9 d_S_atRow_28 (by assumption) (by first | rfl | assumption) rfl ?_
  refine j_iconst (x := 1) (t := 32) C d_S_atRow_31 rfl rfl ?_
  refine j_icmp_ne (tgt := 65) (t := 35) C d_S_atRow_32 (by decide) rfl (fun h32 => absurd h32 (by decide)) (fun h32 => ?_)
  refine j_aload_n (i := 2) (t := 36) C d_S_atRow_35 rfl rfl (by first | exact jrv_r | exact jrv_n | exact jrv_f) rfl ?_
  refine j_ifnonnull (tgt := 43) (t := 39) C d_S_atRow_36 (by decide) rfl (fun a36 h36 => ?_) (fun h36 => ?_)
  · rw [h36] at hO
    obtain ⟨x, rfl, hx⟩ := hO
    refine j_iconst (x := 0) (t := 44) C d_S_atRow_43 rfl rfl ?_
    refine j_aload_n (i := 0) (t := 45) C d_S_atRow_44 rfl rfl (by first | exact jrv_r | exact jrv_n | exact jrv_f) rfl ?_
    refine j_get (t := 48) C fl_S_9 d_S_atRow_45 (by assumption) (by first | rfl | assumption) rfl ?_
    refine j_if_ne (tgt := 55) (t := 51) C d_S_atRow_48 (by decide) rfl (fun h48 => ?_) (fun h48 => absurd h48 (by decide))
    refine j_iconst (x := 0) (t := 56) C d_S_atRow_55 rfl rfl ?_
    refine j_icmp_ne (tgt := 63) (t := 59) C d_S_atRow_56 (by decide) rfl (fun h56 => ?_) (fun h56 => ?_)
    · refine j_iconst (x := 1) (t := 64) C d_S_atRow_63 rfl rfl ?_
      exact j_iret C d_S_atRow_64 rfl (⟨rfl, by simp_all⟩) (by omega) (by omega)
    · refine j_iconst (x := 2) (t := 60) C d_S_atRow_59 rfl rfl ?_
      refine j_goto (tgt := 64) C d_S_atRow_60 (by decide) ?_
      exact j_iret C d_S_atRow_64 rfl (⟨rfl, by simp_all⟩) (by omega) (by omega)
  · rw [h36] at hO
    obtain rfl := hO
    refine j_iconst (x := 1) (t := 40) C d_S_atRow_39 rfl rfl ?_
    refine j_goto (tgt := 44) C d_S_atRow_40 (by decide) ?_
    refine j_aload_n (i := 0) (t := 45) C d_S_atRow_44 rfl rfl (by first | exact jrv_r | exact jrv_n | exact jrv_f) rfl ?_
    refine j_get (t := 48) C fl_S_9 d_S_atRow_45 (by assumption) (by first | rfl | assumption) rfl ?_
    refine j_if_ne (tgt := 55) (t := 51) C d_S_atRow_48 (by decide) rfl (fun h48 => ?_) (fun h48 => absurd h48 (by decide))
    refine j_iconst (x := 0) (t := 56) C d_S_atRow_55 rfl rfl ?_
    refine j_icmp_ne (tgt := 63) (t := 59) C d_S_atRow_56 (by decide) rfl (fun h56 => ?_) (fun h56 => ?_)
    · refine j_iconst (x := 1) (t := 64) C d_S_atRow_63 rfl rfl ?_
      exact j_iret C d_S_atRow_64 rfl (⟨rfl, by simp_all⟩) (by omega) (by omega)
    · refine j_iconst (x := 2) (t := 60) C d_S_atRow_59 rfl rfl ?_
      refine j_goto (tgt := 64) C d_S_atRow_60 (by decide) ?_
      exact j_iret C d_S_atRow_64 rfl (⟨rfl, by simp_all⟩) (by omega) (by omega)

set_option maxHeartbeats 4000000 in
set_option maxRecDepth 100000 in
/-- atRow, kind 2 -/
theorem c_S_atRow_2 (l : Launch) (a ca : Nat) (op : Int32) (oth : Option Nat) (al : Nat) (fi mn : Int32) (r1 : Nat) (f : Nat → Option Nat) (v1 : Option jv) (lit : Nat → jv) (p m : Nat) : MC l y_S_atRow b_S_atRow 4 (some .int) 2 0 0
    (fun G w av => av = [.ref a, .int (nI r1)] ∧ jh w a (eO cS [.int 2, va_rf (some ca), .int op, va_rf oth, .ref al, .int fi, .int mn]) ∧ isR G w ca r1 f ∧ isO G w (f r1) v1 ∧ fi = nI p ∧ mn = nI m ∧ isL G w al lit p m)
    (fun G w av r w' => w' = w ∧ r = some (.int (match v1 with | none => 4 | some x => bif amg x lit p m then 2 else 1))) := by
  refine MC.of 99 (by decide) ?_
  intro X w av hl C hnm hp
  obtain ⟨rfl, ha, ⟨cfs, ra, rc, hca, hf1, hf2, hra, hr1, hrc⟩, hO, rfl, rfl, f2, hal, hpm, hlt⟩ := hp
  refine ⟨[(0, _), (1, _)], rfl, Nat.le_of_ble_eq_true rfl, rfl, ?_⟩
  refine j_aload_n (i := 0) (t := 1) C d_S_atRow_0 rfl rfl (by first | exact jrv_r | exact jrv_n | exact jrv_f) rfl ?_
  refine j_get (t := 4) C fl_S_15 d_S_atRow_1 (by assumption) (by first | rfl | assumption) rfl ?_
  refine j_ifnonnull (tgt := 11) (t := 7) C d_S_atRow_4 (by decide) rfl (fun a4 h4 => ?_) (fun h4 => absurd h4 (by simp))
  refine j_aload_n (i := 0) (t := 12) C d_S_atRow_11 rfl rfl (by first | exact jrv_r | exact jrv_n | exact jrv_f) rfl ?_
  refine j_get (t := 15) C fl_S_15 d_S_atRow_12 (by assumption) (by first | rfl | assumption) rfl ?_
  refine j_iload_n (i := 1) (t := 16) C d_S_atRow_15 rfl rfl rfl ?_
  refine j_callV (As := [_]) (t := 19) C (c_C_valueAt _ ca _ _ _ f (nI r1)) d_S_atRow_16 jb_C_valueAt ml_S_35 jv_C_valueAt (by assumption) rfl rfl rfl (Nat.le_of_ble_eq_true rfl) (by decide) (by omega) (by omega) (⟨rfl, by assumption, by assumption, by assumption, by assumption, by assumption⟩) rfl (fun r16 w16 p16 => ?_)
  obtain ⟨rfl, rfl⟩ := p16
  dsimp only [jst]
  rw [vAt_nI (by assumption) (by assumption)]
  refine j_astore_n (i := 2) (t := 20) (lv' := [(0, _), (1, _), (2, _)]) C d_S_atRow_19 rfl (by first | exact jrv_r | exact jrv_n | exact jrv_f) (by decide) (by decide) rfl rfl ?_
  refine j_aload_n (i := 0) (t := 21) C d_S_atRow_20 rfl rfl (by first | exact jrv_r | exact jrv_n | exact jrv_f) rfl ?_
  refine j_get (t := 24) C fl_S_9 d_S_atRow_21 (by assumption) (by first | rfl | assumption) rfl ?_
  refine j_if_eq (tgt := 35) (t := 27) C d_S_atRow_24 (by decide) rfl (fun h24 => absurd h24 (by decide)) (fun h24 => ?_)
  refine j_aload_n (i := 0) (t := 28) C d_S_atRow_27 rfl rfl (by first | exact jrv_r | exact jrv_n | exact jrv_f) rfl ?_
  refine j_get (t := 31) C fl_S_9 d_S_atRow_28 (by assumption) (by first | rfl | assumption) rfl ?_
  refine j_iconst (x := 1) (t := 32) C d_S_atRow_31 rfl rfl ?_
  refine j_icmp_ne (tgt := 65) (t := 35) C d_S_atRow_32 (by decide) rfl (fun h32 => ?_) (fun h32 => absurd h32 (by decide))
  refine j_aload_n (i := 2) (t := 66) C d_S_atRow_65 rfl rfl (by first | exact jrv_r | exact jrv_n | exact jrv_f) rfl ?_
  refine j_ifnonnull (tgt := 71) (t := 69) C d_S_atRow_66 (by decide) rfl (fun a66 h66 => ?_) (fun h66 => ?_)
  · rw [h66] at hO
    obtain ⟨x, rfl, hx⟩ := hO
    obtain ⟨tx, hxo, -⟩ := id hx
    rw [h66]
    refine j_aload_n (i := 0) (t := 72) C d_S_atRow_71 rfl rfl (by first | exact jrv_r | exact jrv_n | exact jrv_f) rfl ?_
    refine j_get (t := 75) C fl_S_9 d_S_atRow_72 (by assumption) (by first | rfl | assumption) rfl ?_
    refine j_iconst (x := 2) (t := 76) C d_S_atRow_75 rfl rfl ?_
    refine j_icmp_ne (tgt := 104) (t := 79) C d_S_atRow_76 (by decide) rfl (fun h76 => absurd h76 (by decide)) (fun h76 => ?_)
    refine j_aload_n (i := 2) (t := 80) C d_S_atRow_79 rfl rfl (by first | exact jrv_r | exact jrv_n | exact jrv_f) rfl ?_
    refine j_aload_n (i := 0) (t := 81) C d_S_atRow_80 rfl rfl (by first | exact jrv_r | exact jrv_n | exact jrv_f) rfl ?_
    refine j_get (t := 84) C fl_S_25 d_S_atRow_81 (by assumption) (by first | rfl | assumption) rfl ?_
    refine j_aload_n (i := 0) (t := 85) C d_S_atRow_84 rfl rfl (by first | exact jrv_r | exact jrv_n | exact jrv_f) rfl ?_
    refine j_get (t := 88) C fl_S_29 d_S_atRow_85 (by assumption) (by first | rfl | assumption) rfl ?_
    refine j_aload_n (i := 0) (t := 89) C d_S_atRow_88 rfl rfl (by first | exact jrv_r | exact jrv_n | exact jrv_f) rfl ?_
    refine j_get (t := 92) C fl_S_32 d_S_atRow_89 (by assumption) (by first | rfl | assumption) rfl ?_
    refine j_callSN (As := [_, _, _, _]) (t := 95) C (c_T_isAmong _ a66 al x 64 f2 lit p m) d_S_atRow_92 jb_T_isAmong ml_S_41 st_T_isAmong rfl (Nat.le_of_ble_eq_true rfl) (by decide) (by omega) (by omega) (⟨rfl, hx, hal, hpm, by omega, hlt⟩) rfl (fun r92 w92 p92 => ?_)
    obtain ⟨rfl, rfl⟩ := p92
    dsimp only [jst]
    refine j_if_eq (tgt := 102) (t := 98) C d_S_atRow_95 (by decide) rfl (fun h95 => ?_) (fun h95 => ?_)
    · refine j_iconst (x := 1) (t := 103) C d_S_atRow_102 rfl rfl ?_
      exact j_iret C d_S_atRow_103 rfl (⟨rfl, by first | (rw [bI_0] at h95; rw [h95]; rfl) | (rw [bI_0, Bool.not_eq_false] at h95; rw [h95]; rfl)⟩) (by omega) (by omega)
    · refine j_iconst (x := 2) (t := 99) C d_S_atRow_98 rfl rfl ?_
      refine j_goto (tgt := 103) C d_S_atRow_99 (by decide) ?_
      exact j_iret C d_S_atRow_103 rfl (⟨rfl, by first | (rw [bI_0] at h95; rw [h95]; rfl) | (rw [bI_0, Bool.not_eq_false] at h95; rw [h95]; rfl)⟩) (by omega) (by omega)
  · rw [h66] at hO
    obtain rfl := hO
    refine j_iconst (x := 4) (t := 70) C d_S_atRow_69 rfl rfl ?_
    exact j_iret C d_S_atRow_70 rfl (⟨rfl, rfl⟩) (by omega) (by omega)

set_option maxHeartbeats 4000000 in
set_option maxRecDepth 100000 in
/-- atRow, kind 3 -/
theorem c_S_atRow_3 (l : Launch) (a ca : Nat) (op : Int32) (oth : Option Nat) (al : Nat) (fi mn : Int32) (r1 : Nat) (f : Nat → Option Nat) (v1 : Option jv) (lit : Nat → jv) (p : Nat) : MC l y_S_atRow b_S_atRow 4 (some .int) 2 0 0
    (fun G w av => av = [.ref a, .int (nI r1)] ∧ jh w a (eO cS [.int 3, va_rf (some ca), .int op, va_rf oth, .ref al, .int fi, .int mn]) ∧ isR G w ca r1 f ∧ isO G w (f r1) v1 ∧ fi = nI p ∧ isL G w al lit p 1)
    (fun G w av r w' => w' = w ∧ r = some (.int (match v1 with | none => 4 | some x => bif hV op (vc x (lit p)) then 2 else 1))) := by
  refine MC.of 99 (by decide) ?_
  intro X w av hl C hnm hp
  obtain ⟨rfl, ha, ⟨cfs, ra, rc, hca, hf1, hf2, hra, hr1, hrc⟩, hO, rfl, f2, hal, hpm, hlt⟩ := hp
  refine ⟨[(0, _), (1, _)], rfl, Nat.le_of_ble_eq_true rfl, rfl, ?_⟩
  refine j_aload_n (i := 0) (t := 1) C d_S_atRow_0 rfl rfl (by first | exact jrv_r | exact jrv_n | exact jrv_f) rfl ?_
  refine j_get (t := 4) C fl_S_15 d_S_atRow_1 (by assumption) (by first | rfl | assumption) rfl ?_
  refine j_ifnonnull (tgt := 11) (t := 7) C d_S_atRow_4 (by decide) rfl (fun a4 h4 => ?_) (fun h4 => absurd h4 (by simp))
  refine j_aload_n (i := 0) (t := 12) C d_S_atRow_11 rfl rfl (by first | exact jrv_r | exact jrv_n | exact jrv_f) rfl ?_
  refine j_get (t := 15) C fl_S_15 d_S_atRow_12 (by assumption) (by first | rfl | assumption) rfl ?_
  refine j_iload_n (i := 1) (t := 16) C d_S_atRow_15 rfl rfl rfl ?_
  refine j_callV (As := [_]) (t := 19) C (c_C_valueAt _ ca _ _ _ f (nI r1)) d_S_atRow_16 jb_C_valueAt ml_S_35 jv_C_valueAt (by assumption) rfl rfl rfl (Nat.le_of_ble_eq_true rfl) (by decide) (by omega) (by omega) (⟨rfl, by assumption, by assumption, by assumption, by assumption, by assumption⟩) rfl (fun r16 w16 p16 => ?_)
  obtain ⟨rfl, rfl⟩ := p16
  dsimp only [jst]
  rw [vAt_nI (by assumption) (by assumption)]
  refine j_astore_n (i := 2) (t := 20) (lv' := [(0, _), (1, _), (2, _)]) C d_S_atRow_19 rfl (by first | exact jrv_r | exact jrv_n | exact jrv_f) (by decide) (by decide) rfl rfl ?_
  refine j_aload_n (i := 0) (t := 21) C d_S_atRow_20 rfl rfl (by first | exact jrv_r | exact jrv_n | exact jrv_f) rfl ?_
  refine j_get (t := 24) C fl_S_9 d_S_atRow_21 (by assumption) (by first | rfl | assumption) rfl ?_
  refine j_if_eq (tgt := 35) (t := 27) C d_S_atRow_24 (by decide) rfl (fun h24 => absurd h24 (by decide)) (fun h24 => ?_)
  refine j_aload_n (i := 0) (t := 28) C d_S_atRow_27 rfl rfl (by first | exact jrv_r | exact jrv_n | exact jrv_f) rfl ?_
  refine j_get (t := 31) C fl_S_9 d_S_atRow_28 (by assumption) (by first | rfl | assumption) rfl ?_
  refine j_iconst (x := 1) (t := 32) C d_S_atRow_31 rfl rfl ?_
  refine j_icmp_ne (tgt := 65) (t := 35) C d_S_atRow_32 (by decide) rfl (fun h32 => ?_) (fun h32 => absurd h32 (by decide))
  refine j_aload_n (i := 2) (t := 66) C d_S_atRow_65 rfl rfl (by first | exact jrv_r | exact jrv_n | exact jrv_f) rfl ?_
  refine j_ifnonnull (tgt := 71) (t := 69) C d_S_atRow_66 (by decide) rfl (fun a66 h66 => ?_) (fun h66 => ?_)
  · rw [h66] at hO
    obtain ⟨x, rfl, hx⟩ := hO
    obtain ⟨tx, hxo, -⟩ := id hx
    rw [h66]
    refine j_aload_n (i := 0) (t := 72) C d_S_atRow_71 rfl rfl (by first | exact jrv_r | exact jrv_n | exact jrv_f) rfl ?_
    refine j_get (t := 75) C fl_S_9 d_S_atRow_72 (by assumption) (by first | rfl | assumption) rfl ?_
    refine j_iconst (x := 2) (t := 76) C d_S_atRow_75 rfl rfl ?_
    refine j_icmp_ne (tgt := 104) (t := 79) C d_S_atRow_76 (by decide) rfl (fun h76 => ?_) (fun h76 => absurd h76 (by decide))
    refine j_aload_n (i := 0) (t := 105) C d_S_atRow_104 rfl rfl (by first | exact jrv_r | exact jrv_n | exact jrv_f) rfl ?_
    refine j_get (t := 108) C fl_S_9 d_S_atRow_105 (by assumption) (by first | rfl | assumption) rfl ?_
    refine j_iconst (x := 3) (t := 109) C d_S_atRow_108 rfl rfl ?_
    refine j_icmp_ne (tgt := 124) (t := 112) C d_S_atRow_109 (by decide) rfl (fun h109 => absurd h109 (by decide)) (fun h109 => ?_)
    obtain ⟨b, hfb, hb⟩ := hlt p (Nat.le_refl _) (by omega)
    have hinp : vp_in (nI p) 64 := vp_in_nI (by omega) (by omega)
    refine j_aload_n (i := 0) (t := 113) C d_S_atRow_112 rfl rfl (by first | exact jrv_r | exact jrv_n | exact jrv_f) rfl ?_
    refine j_get (t := 116) C fl_S_25 d_S_atRow_113 (by assumption) (by first | rfl | assumption) rfl ?_
    refine j_aload_n (i := 0) (t := 117) C d_S_atRow_116 rfl rfl (by first | exact jrv_r | exact jrv_n | exact jrv_f) rfl ?_
    refine j_get (t := 120) C fl_S_29 d_S_atRow_117 (by assumption) (by first | rfl | assumption) rfl ?_
    refine j_aaload (t := 121) C d_S_atRow_120 (by assumption) (by rfl) (by assumption) rfl ?_
    rw [nI_clamp (by omega)]
    refine j_goto (tgt := 129) C d_S_atRow_121 (by decide) ?_
    refine j_astore_n (i := 3) (t := 130) (lv' := [(0, _), (1, _), (2, _), (3, _)]) C d_S_atRow_129 rfl (by first | exact jrv_r | exact jrv_n | exact jrv_f) (by decide) (by decide) rfl rfl ?_
    refine j_aload_n (i := 3) (t := 131) C d_S_atRow_130 rfl rfl (by first | exact jrv_r | exact jrv_n | exact jrv_f) rfl ?_
    refine j_ifnonnull (tgt := 136) (t := 134) C d_S_atRow_131 (by decide) rfl (fun a131 h131 => ?_) (fun h131 => absurd h131 (by rw [hfb]; simp))
    rw [hfb]
    refine j_aload_n (i := 0) (t := 137) C d_S_atRow_136 rfl rfl (by first | exact jrv_r | exact jrv_n | exact jrv_f) rfl ?_
    refine j_get (t := 140) C fl_S_19 d_S_atRow_137 (by assumption) (by first | rfl | assumption) rfl ?_
    refine j_aload_n (i := 2) (t := 141) C d_S_atRow_140 rfl rfl (by first | exact jrv_r | exact jrv_n | exact jrv_f) rfl ?_
    refine j_aload_n (i := 3) (t := 142) C d_S_atRow_141 rfl rfl (by first | exact jrv_r | exact jrv_n | exact jrv_f) rfl ?_
    refine j_callV (As := [_]) (t := 145) C (c_V_order _ a66 b x (lit p)) d_S_atRow_142 jb_V_order ml_S_48 jv_V_order (by assumption) rfl rfl rfl (Nat.le_of_ble_eq_true rfl) (by decide) (by omega) (by omega) (⟨rfl, hx, hb⟩) rfl (fun r142 w142 p142 => ?_)
    obtain ⟨rfl, i142, rfl, s142⟩ := p142
    dsimp only [jst]
    refine j_callSN (As := [_, _]) (t := 148) C (c_T_holds _ _ _) d_S_atRow_145 jb_T_holds ml_S_54 st_T_holds rfl (Nat.le_of_ble_eq_true rfl) (by decide) (by omega) (by omega) (rfl) rfl (fun r145 w145 p145 => ?_)
    obtain ⟨rfl, rfl⟩ := p145
    dsimp only [jst]
    rw [hO_sg s142]
    refine j_if_eq (tgt := 155) (t := 151) C d_S_atRow_148 (by decide) rfl (fun h148 => ?_) (fun h148 => ?_)
    · refine j_iconst (x := 1) (t := 156) C d_S_atRow_155 rfl rfl ?_
      exact j_iret C d_S_atRow_156 rfl (⟨rfl, by first | (rw [bI_0] at h148; simp only [h148]; rfl) | (rw [bI_0, Bool.not_eq_false] at h148; simp only [h148]; rfl)⟩) (by omega) (by omega)
    · refine j_iconst (x := 2) (t := 152) C d_S_atRow_151 rfl rfl ?_
      refine j_goto (tgt := 156) C d_S_atRow_152 (by decide) ?_
      exact j_iret C d_S_atRow_156 rfl (⟨rfl, by first | (rw [bI_0] at h148; simp only [h148]; rfl) | (rw [bI_0, Bool.not_eq_false] at h148; simp only [h148]; rfl)⟩) (by omega) (by omega)
  · rw [h66] at hO
    obtain rfl := hO
    refine j_iconst (x := 4) (t := 70) C d_S_atRow_69 rfl rfl ?_
    exact j_iret C d_S_atRow_70 rfl (⟨rfl, rfl⟩) (by omega) (by omega)

set_option maxHeartbeats 4000000 in
set_option maxRecDepth 100000 in
/-- atRow, kind 4 -/
theorem c_S_atRow_4 (l : Launch) (a ca : Nat) (op : Int32) (oth : Option Nat) (al : Nat) (fi mn : Int32) (r1 : Nat) (f : Nat → Option Nat) (v1 : Option jv) (cb : Nat) (f2 : Nat → Option Nat) (v2 : Option jv) : MC l y_S_atRow b_S_atRow 4 (some .int) 2 0 0
    (fun G w av => av = [.ref a, .int (nI r1)] ∧ jh w a (eO cS [.int 4, va_rf (some ca), .int op, va_rf oth, .ref al, .int fi, .int mn]) ∧ isR G w ca r1 f ∧ isO G w (f r1) v1 ∧ oth = some cb ∧ isR G w cb r1 f2 ∧ isO G w (f2 r1) v2)
    (fun G w av r w' => w' = w ∧ r = some (.int (match v1, v2 with | none, _ => 4 | some _, none => 4 | some x, some y => bif hV op (vc x y) then 2 else 1))) := by
  refine MC.of 99 (by decide) ?_
  intro X w av hl C hnm hp
  obtain ⟨rfl, ha, ⟨cfs, ra, rc, hca, hf1, hf2, hra, hr1, hrc⟩, hO, rfl, hR2, hO2⟩ := hp
  refine ⟨[(0, _), (1, _)], rfl, Nat.le_of_ble_eq_true rfl, rfl, ?_⟩
  refine j_aload_n (i := 0) (t := 1) C d_S_atRow_0 rfl rfl (by first | exact jrv_r | exact jrv_n | exact jrv_f) rfl ?_
  refine j_get (t := 4) C fl_S_15 d_S_atRow_1 (by assumption) (by first | rfl | assumption) rfl ?_
  refine j_ifnonnull (tgt := 11) (t := 7) C d_S_atRow_4 (by decide) rfl (fun a4 h4 => ?_) (fun h4 => absurd h4 (by simp))
  refine j_aload_n (i := 0) (t := 12) C d_S_atRow_11 rfl rfl (by first | exact jrv_r | exact jrv_n | exact jrv_f) rfl ?_
  refine j_get (t := 15) C fl_S_15 d_S_atRow_12 (by assumption) (by first | rfl | assumption) rfl ?_
  refine j_iload_n (i := 1) (t := 16) C d_S_atRow_15 rfl rfl rfl ?_
  refine j_callV (As := [_]) (t := 19) C (c_C_valueAt _ ca _ _ _ f (nI r1)) d_S_atRow_16 jb_C_valueAt ml_S_35 jv_C_valueAt (by assumption) rfl rfl rfl (Nat.le_of_ble_eq_true rfl) (by decide) (by omega) (by omega) (⟨rfl, by assumption, by assumption, by assumption, by assumption, by assumption⟩) rfl (fun r16 w16 p16 => ?_)
  obtain ⟨rfl, rfl⟩ := p16
  dsimp only [jst]
  rw [vAt_nI (by assumption) (by assumption)]
  refine j_astore_n (i := 2) (t := 20) (lv' := [(0, _), (1, _), (2, _)]) C d_S_atRow_19 rfl (by first | exact jrv_r | exact jrv_n | exact jrv_f) (by decide) (by decide) rfl rfl ?_
  refine j_aload_n (i := 0) (t := 21) C d_S_atRow_20 rfl rfl (by first | exact jrv_r | exact jrv_n | exact jrv_f) rfl ?_
  refine j_get (t := 24) C fl_S_9 d_S_atRow_21 (by assumption) (by first | rfl | assumption) rfl ?_
  refine j_if_eq (tgt := 35) (t := 27) C d_S_atRow_24 (by decide) rfl (fun h24 => absurd h24 (by decide)) (fun h24 => ?_)
  refine j_aload_n (i := 0) (t := 28) C d_S_atRow_27 rfl rfl (by first | exact jrv_r | exact jrv_n | exact jrv_f) rfl ?_
  refine j_get (t := 31) C fl_S_9 d_S_atRow_28 (by assumption) (by first | rfl | assumption) rfl ?_
  refine j_iconst (x := 1) (t := 32) C d_S_atRow_31 rfl rfl ?_
  refine j_icmp_ne (tgt := 65) (t := 35) C d_S_atRow_32 (by decide) rfl (fun h32 => ?_) (fun h32 => absurd h32 (by decide))
  refine j_aload_n (i := 2) (t := 66) C d_S_atRow_65 rfl rfl (by first | exact jrv_r | exact jrv_n | exact jrv_f) rfl ?_
  refine j_ifnonnull (tgt := 71) (t := 69) C d_S_atRow_66 (by decide) rfl (fun a66 h66 => ?_) (fun h66 => ?_)
  · rw [h66] at hO
    obtain ⟨x, rfl, hx⟩ := hO
    obtain ⟨tx, hxo, -⟩ := id hx
    rw [h66]
    refine j_aload_n (i := 0) (t := 72) C d_S_atRow_71 rfl rfl (by first | exact jrv_r | exact jrv_n | exact jrv_f) rfl ?_
    refine j_get (t := 75) C fl_S_9 d_S_atRow_72 (by assumption) (by first | rfl | assumption) rfl ?_
    refine j_iconst (x := 2) (t := 76) C d_S_atRow_75 rfl rfl ?_
    refine j_icmp_ne (tgt := 104) (t := 79) C d_S_atRow_76 (by decide) rfl (fun h76 => ?_) (fun h76 => absurd h76 (by decide))
    refine j_aload_n (i := 0) (t := 105) C d_S_atRow_104 rfl rfl (by first | exact jrv_r | exact jrv_n | exact jrv_f) rfl ?_
    refine j_get (t := 108) C fl_S_9 d_S_atRow_105 (by assumption) (by first | rfl | assumption) rfl ?_
    refine j_iconst (x := 3) (t := 109) C d_S_atRow_108 rfl rfl ?_
    refine j_icmp_ne (tgt := 124) (t := 112) C d_S_atRow_109 (by decide) rfl (fun h109 => ?_) (fun h109 => absurd h109 (by decide))
    refine j_aload_n (i := 0) (t := 125) C d_S_atRow_124 rfl rfl (by first | exact jrv_r | exact jrv_n | exact jrv_f) rfl ?_
    refine j_iload_n (i := 1) (t := 126) C d_S_atRow_125 rfl rfl rfl ?_
    refine j_callV (As := [_]) (t := 129) C (c_S_valueOfOther _ a cb _ r1 f2) d_S_atRow_126 jb_S_valueOfOther ml_S_45 jv_S_valueOfOther (by assumption) rfl rfl rfl (Nat.le_of_ble_eq_true rfl) (by decide) (by omega) (by omega) (⟨rfl, ha, rfl, hR2⟩) rfl (fun r126 w126 p126 => ?_)
    obtain ⟨rfl, rfl⟩ := p126
    dsimp only [jst]
    refine j_astore_n (i := 3) (t := 130) (lv' := [(0, _), (1, _), (2, _), (3, _)]) C d_S_atRow_129 rfl (by first | exact jrv_r | exact jrv_n | exact jrv_f) (by decide) (by decide) rfl rfl ?_
    refine j_aload_n (i := 3) (t := 131) C d_S_atRow_130 rfl rfl (by first | exact jrv_r | exact jrv_n | exact jrv_f) rfl ?_
    refine j_ifnonnull (tgt := 136) (t := 134) C d_S_atRow_131 (by decide) rfl (fun a131 h131 => ?_) (fun h131 => ?_)
    · rw [h131] at hO2
      obtain ⟨y, rfl, hy⟩ := hO2
      rw [h131]
      refine j_aload_n (i := 0) (t := 137) C d_S_atRow_136 rfl rfl (by first | exact jrv_r | exact jrv_n | exact jrv_f) rfl ?_
      refine j_get (t := 140) C fl_S_19 d_S_atRow_137 (by assumption) (by first | rfl | assumption) rfl ?_
      refine j_aload_n (i := 2) (t := 141) C d_S_atRow_140 rfl rfl (by first | exact jrv_r | exact jrv_n | exact jrv_f) rfl ?_
      refine j_aload_n (i := 3) (t := 142) C d_S_atRow_141 rfl rfl (by first | exact jrv_r | exact jrv_n | exact jrv_f) rfl ?_
      refine j_callV (As := [_]) (t := 145) C (c_V_order _ a66 a131 x y) d_S_atRow_142 jb_V_order ml_S_48 jv_V_order (by assumption) rfl rfl rfl (Nat.le_of_ble_eq_true rfl) (by decide) (by omega) (by omega) (⟨rfl, hx, hy⟩) rfl (fun r142 w142 p142 => ?_)
      obtain ⟨rfl, i142, rfl, s142⟩ := p142
      dsimp only [jst]
      refine j_callSN (As := [_, _]) (t := 148) C (c_T_holds _ _ _) d_S_atRow_145 jb_T_holds ml_S_54 st_T_holds rfl (Nat.le_of_ble_eq_true rfl) (by decide) (by omega) (by omega) (rfl) rfl (fun r145 w145 p145 => ?_)
      obtain ⟨rfl, rfl⟩ := p145
      dsimp only [jst]
      rw [hO_sg s142]
      refine j_if_eq (tgt := 155) (t := 151) C d_S_atRow_148 (by decide) rfl (fun h148 => ?_) (fun h148 => ?_)
      · refine j_iconst (x := 1) (t := 156) C d_S_atRow_155 rfl rfl ?_
        exact j_iret C d_S_atRow_156 rfl (⟨rfl, by first | (rw [bI_0] at h148; simp only [h148]; rfl) | (rw [bI_0, Bool.not_eq_false] at h148; simp only [h148]; rfl)⟩) (by omega) (by omega)
      · refine j_iconst (x := 2) (t := 152) C d_S_atRow_151 rfl rfl ?_
        refine j_goto (tgt := 156) C d_S_atRow_152 (by decide) ?_
        exact j_iret C d_S_atRow_156 rfl (⟨rfl, by first | (rw [bI_0] at h148; simp only [h148]; rfl) | (rw [bI_0, Bool.not_eq_false] at h148; simp only [h148]; rfl)⟩) (by omega) (by omega)
    · rw [h131] at hO2
      obtain rfl := hO2
      refine j_iconst (x := 4) (t := 135) C d_S_atRow_134 rfl rfl ?_
      exact j_iret C d_S_atRow_135 rfl (⟨rfl, rfl⟩) (by omega) (by omega)
  · rw [h66] at hO
    obtain rfl := hO
    refine j_iconst (x := 4) (t := 70) C d_S_atRow_69 rfl rfl ?_
    exact j_iret C d_S_atRow_70 rfl (⟨rfl, rfl⟩) (by omega) (by omega)
