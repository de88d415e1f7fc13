set_option maxHeartbeats 4000000 in
set_option maxRecDepth 100000 in
/-- fromTape -/
theorem c_M_fromTape (l : Launch) (o : Nat) (q : Nat → Nat) (m : jM) (i0 K P : Nat) : MC l y_M_fromTape b_M_fromTape 5 (none) 0 0 0
    (fun G w av => av = [.ref o, .int (nI i0), .int (nI K), .int (nI P)] ∧ MH G w o q m ∧ i0 < 17696 ∧ K ≤ 1000 ∧ P + K ≤ 280576)
    (fun G w av r w' => r = none ∧ ∃ bb, MH G w' o q (mp_bytes (mp_from (mp_size (mp_num m (vp_updL (mg_num m) i0 0)) (upd (mg_size m) i0 (nI K))) (upd (mg_from m) i0 (nI P))) bb) ∧ (∀ j, j < K → bb (P + j) = mg_tape m j) ∧ ∀ b, b < P ∨ P + K ≤ b → bb b = mg_bytes m b) := by
  refine MC.of 99 (by decide) ?_
  intro X w av hl C hnm hp
  obtain ⟨rfl, hM, hi0, hK, hP⟩ := hp
  refine ⟨[(0, _), (1, _), (2, _), (3, _)], rfl, Nat.le_of_ble_eq_true rfl, rfl, ?_⟩
  refine j_aload_n (i := 0) (t := 1) C d_M_fromTape_0 rfl rfl (by first | exact jrv_r | exact jrv_n | exact jrv_f) rfl ?_
  refine j_get (t := 4) C fl_M_13 d_M_fromTape_1 hM.1 rfl rfl ?_
  refine j_iload_n (i := 1) (t := 5) C d_M_fromTape_4 rfl rfl rfl ?_
  refine j_lconst (x := 0) (t := 6) C d_M_fromTape_5 rfl rfl ?_
  refine j_st_num (i := i0) (t := 7) C d_M_fromTape_6 hM (by rfl) (by omega) rfl (fun w6 M6 => ?_)
  refine j_aload_n (i := 0) (t := 8) C d_M_fromTape_7 rfl rfl (by first | exact jrv_r | exact jrv_n | exact jrv_f) rfl ?_
  refine j_get (t := 11) C fl_M_20 d_M_fromTape_8 M6.1 rfl rfl ?_
  refine j_iload_n (i := 1) (t := 12) C d_M_fromTape_11 rfl rfl rfl ?_
  refine j_iload_n (i := 2) (t := 13) C d_M_fromTape_12 rfl rfl rfl ?_
  refine j_st_size (i := i0) (t := 14) C d_M_fromTape_13 M6 (by rfl) (by omega) rfl (fun w13 M13 => ?_)
  refine j_aload_n (i := 0) (t := 15) C d_M_fromTape_14 rfl rfl (by first | exact jrv_r | exact jrv_n | exact jrv_f) rfl ?_
  refine j_get (t := 18) C fl_M_17 d_M_fromTape_15 M13.1 rfl rfl ?_
  refine j_iload_n (i := 1) (t := 19) C d_M_fromTape_18 rfl rfl rfl ?_
  refine j_iload_n (i := 3) (t := 20) C d_M_fromTape_19 rfl rfl rfl ?_
  refine j_st_from (i := i0) (t := 21) C d_M_fromTape_20 M13 (by rfl) (by omega) rfl (fun w20 M20 => ?_)
  refine j_iconst (x := 0) (t := 22) C d_M_fromTape_21 rfl rfl ?_
  refine j_istore (i := 4) (t := 24) (lv' := [(0, _), (1, _), (2, _), (3, _), (4, _)]) C d_M_fromTape_22 (by decide) (by decide) rfl rfl ?_
  have loop : ∀ (qq k : Nat) (wi : jw) (bk : Nat → Int32), K + 1 ≤ k + qq → k ≤ K → MH (xG X) wi o q (mp_bytes (mp_from (mp_size (mp_num m (vp_updL (mg_num m) i0 0)) (upd (mg_size m) i0 (nI K))) (upd (mg_from m) i0 (nI P))) bk) → (∀ j, j < k → bk (P + j) = mg_tape m j) → (∀ b, b < P ∨ P + K ≤ b → bk b = mg_bytes m b) → J X (5, 99) (jQ X (fun r w' => r = none ∧ ∃ bb, MH (xG X) w' o q (mp_bytes (mp_from (mp_size (mp_num m (vp_updL (mg_num m) i0 0)) (upd (mg_size m) i0 (nI K))) (upd (mg_from m) i0 (nI P))) bb) ∧ (∀ j, j < K → bb (P + j) = mg_tape m j) ∧ ∀ b, b < P ∨ P + K ≤ b → bb b = mg_bytes m b) 0 0) wi 0 0 24 [(0, .ref o), (1, .int (nI i0)), (2, .int (nI K)), (3, .int (nI P)), (4, .int (nI k))] [] := by
    intro qq
    induction qq with
    | zero => intro k wi bk h1 h2; omega
    | succ qq ih =>
      intro k wi bk hi1 hi2 hMi hb1 hb2
      refine j_iload (t := 26) C d_M_fromTape_24 rfl rfl ?_
      refine j_iload_n (i := 2) (t := 27) C d_M_fromTape_26 rfl rfl rfl ?_
      refine j_icmp_ge (tgt := 52) (t := 30) C d_M_fromTape_27 (by decide) rfl (fun h27 => ?_) (fun h27 => ?_)
      · have hke : k = K := fde h27 (by omega) (by omega) hi2
        subst hke
        exact j_vret C d_M_fromTape_52 (⟨rfl, bk, hMi, hb1, hb2⟩) (by omega) (by omega)
      · have hk3 : k < K := fdh h27 (by omega) (by omega)
        refine j_aload_n (i := 0) (t := 31) C d_M_fromTape_30 rfl rfl (by first | exact jrv_r | exact jrv_n | exact jrv_f) rfl ?_
        refine j_get (t := 34) C fl_M_24 d_M_fromTape_31 hMi.1 rfl rfl ?_
        refine j_iload_n (i := 3) (t := 35) C d_M_fromTape_34 rfl rfl rfl ?_
        refine j_iload (t := 37) C d_M_fromTape_35 rfl rfl ?_
        refine j_iadd (t := 38) C d_M_fromTape_37 rfl ?_
        refine j_aload_n (i := 0) (t := 39) C d_M_fromTape_38 rfl rfl (by first | exact jrv_r | exact jrv_n | exact jrv_f) rfl ?_
        refine j_get (t := 42) C fl_M_7 d_M_fromTape_39 hMi.1 rfl rfl ?_
        refine j_iload (t := 44) C d_M_fromTape_42 rfl rfl ?_
        refine j_ld_tape (i := k) (t := 45) C d_M_fromTape_44 hMi (by first | rfl | simp only [nI_add, nI_mul, nI_1]) (by omega) ((rfl : mg_tape m k = mg_tape m k)) rfl ?_
        refine j_st_bytes (i := P + k) (t := 46) C d_M_fromTape_45 hMi (by rw [nI_add]) (by omega) rfl (fun w45 M45 => ?_)
        refine j_iinc (y := _ + 1) (t := 49) (lv' := [(0, _), (1, _), (2, _), (3, _), (4, _)]) C d_M_fromTape_46 rfl rfl (by decide) (by decide) rfl rfl ?_
        refine j_goto (tgt := 24) C d_M_fromTape_49 (by decide) ?_
        rw [nI_1]
        exact ih (k + 1) w45 _ (by omega) (by omega) M45 (upd_nx hb1) (fun b hb => (upd_ne (by omega)).trans (hb2 b hb))
  exact loop (K + 1) 0 w20 (mg_bytes m) (by omega) (Nat.zero_le _) M20 (fun j hj => absurd hj (Nat.not_lt_zero _)) (fun _ _ => rfl)

set_option maxHeartbeats 4000000 in
set_option maxRecDepth 100000 in
/-- copy -/
theorem c_M_copy (l : Launch) (o : Nat) (q : Nat → Nat) (m : jM) (i0 i1 K F P : Nat) : MC l y_M_copy b_M_copy 5 (none) 0 0 0
    (fun G w av => av = [.ref o, .int (nI i0), .int (nI i1), .int (nI P)] ∧ MH G w o q m ∧ (i0 < 17696 ∧ i1 < 17696 ∧ i0 ≠ i1) ∧ (mg_size m i1 = nI K ∧ K ≤ 1000 ∧ P + K ≤ 280576) ∧ (0 < K → mg_from m i1 = nI F ∧ F + K ≤ 280576 ∧ (F + K ≤ P ∨ P + K ≤ F)))
    (fun G w av r w' => r = none ∧ ∃ bb, MH G w' o q (mp_bytes (mp_from (mp_size (mp_num m (vp_updL (mg_num m) i0 (mg_num m i1))) (upd (mg_size m) i0 (nI K))) (upd (mg_from m) i0 (nI P))) bb) ∧ (∀ j, j < K → bb (P + j) = mg_bytes m (F + j)) ∧ ∀ b, b < P ∨ P + K ≤ b → bb b = mg_bytes m b) := by
  refine MC.of 99 (by decide) ?_
  intro X w av hl C hnm hp
  obtain ⟨rfl, hM, ⟨hi0, hi1, hne⟩, ⟨hsz, hK, hP⟩, hF⟩ := hp
  refine ⟨[(0, _), (1, _), (2, _), (3, _)], rfl, Nat.le_of_ble_eq_true rfl, rfl, ?_⟩
  refine j_aload_n (i := 0) (t := 1) C d_M_copy_0 rfl rfl (by first | exact jrv_r | exact jrv_n | exact jrv_f) rfl ?_
  refine j_get (t := 4) C fl_M_13 d_M_copy_1 hM.1 rfl rfl ?_
  refine j_iload_n (i := 1) (t := 5) C d_M_copy_4 rfl rfl rfl ?_
  refine j_aload_n (i := 0) (t := 6) C d_M_copy_5 rfl rfl (by first | exact jrv_r | exact jrv_n | exact jrv_f) rfl ?_
  refine j_get (t := 9) C fl_M_13 d_M_copy_6 hM.1 rfl rfl ?_
  refine j_iload_n (i := 2) (t := 10) C d_M_copy_9 rfl rfl rfl ?_
  refine j_ld_num (i := i1) (t := 11) C d_M_copy_10 hM (by rfl) (by omega) rfl rfl ?_
  refine j_st_num (i := i0) (t := 12) C d_M_copy_11 hM (by rfl) (by omega) rfl (fun w11 M11 => ?_)
  refine j_aload_n (i := 0) (t := 13) C d_M_copy_12 rfl rfl (by first | exact jrv_r | exact jrv_n | exact jrv_f) rfl ?_
  refine j_get (t := 16) C fl_M_20 d_M_copy_13 M11.1 rfl rfl ?_
  refine j_iload_n (i := 1) (t := 17) C d_M_copy_16 rfl rfl rfl ?_
  refine j_aload_n (i := 0) (t := 18) C d_M_copy_17 rfl rfl (by first | exact jrv_r | exact jrv_n | exact jrv_f) rfl ?_
  refine j_get (t := 21) C fl_M_20 d_M_copy_18 M11.1 rfl rfl ?_
  refine j_iload_n (i := 2) (t := 22) C d_M_copy_21 rfl rfl rfl ?_
  refine j_ld_size (i := i1) (t := 23) C d_M_copy_22 M11 (by rfl) (by omega) (hsz) rfl ?_
  refine j_st_size (i := i0) (t := 24) C d_M_copy_23 M11 (by rfl) (by omega) rfl (fun w23 M23 => ?_)
  refine j_aload_n (i := 0) (t := 25) C d_M_copy_24 rfl rfl (by first | exact jrv_r | exact jrv_n | exact jrv_f) rfl ?_
  refine j_get (t := 28) C fl_M_17 d_M_copy_25 M23.1 rfl rfl ?_
  refine j_iload_n (i := 1) (t := 29) C d_M_copy_28 rfl rfl rfl ?_
  refine j_iload_n (i := 3) (t := 30) C d_M_copy_29 rfl rfl rfl ?_
  refine j_st_from (i := i0) (t := 31) C d_M_copy_30 M23 (by rfl) (by omega) rfl (fun w30 M30 => ?_)
  refine j_iconst (x := 0) (t := 32) C d_M_copy_31 rfl rfl ?_
  refine j_istore (i := 4) (t := 34) (lv' := [(0, _), (1, _), (2, _), (3, _), (4, _)]) C d_M_copy_32 (by decide) (by decide) rfl rfl ?_
  have loop : ∀ (qq k : Nat) (wi : jw) (bk : Nat → Int32), K + 1 ≤ k + qq → k ≤ K → MH (xG X) wi o q (mp_bytes (mp_from (mp_size (mp_num m (vp_updL (mg_num m) i0 (mg_num m i1))) (upd (mg_size m) i0 (nI K))) (upd (mg_from m) i0 (nI P))) bk) → (∀ j, j < k → bk (P + j) = mg_bytes m (F + j)) → (∀ b, b < P ∨ P + K ≤ b → bk b = mg_bytes m b) → J X (5, 99) (jQ X (fun r w' => r = none ∧ ∃ bb, MH (xG X) w' o q (mp_bytes (mp_from (mp_size (mp_num m (vp_updL (mg_num m) i0 (mg_num m i1))) (upd (mg_size m) i0 (nI K))) (upd (mg_from m) i0 (nI P))) bb) ∧ (∀ j, j < K → bb (P + j) = mg_bytes m (F + j)) ∧ ∀ b, b < P ∨ P + K ≤ b → bb b = mg_bytes m b) 0 0) wi 0 0 34 [(0, .ref o), (1, .int (nI i0)), (2, .int (nI i1)), (3, .int (nI P)), (4, .int (nI k))] [] := by
    intro qq
    induction qq with
    | zero => intro k wi bk h1 h2; omega
    | succ qq ih =>
      intro k wi bk hi1 hi2 hMi hb1 hb2
      refine j_iload (t := 36) C d_M_copy_34 rfl rfl ?_
      refine j_aload_n (i := 0) (t := 37) C d_M_copy_36 rfl rfl (by first | exact jrv_r | exact jrv_n | exact jrv_f) rfl ?_
      refine j_get (t := 40) C fl_M_20 d_M_copy_37 hMi.1 rfl rfl ?_
      refine j_iload_n (i := 2) (t := 41) C d_M_copy_40 rfl rfl rfl ?_
      refine j_ld_size (i := i1) (t := 42) C d_M_copy_41 hMi (by first | rfl | simp only [nI_add, nI_mul, nI_1]) (by omega) ((upd_ne (Ne.symm hne)).trans hsz) rfl ?_
      refine j_icmp_ge (tgt := 74) (t := 45) C d_M_copy_42 (by decide) rfl (fun h42 => ?_) (fun h42 => ?_)
      · have hke : k = K := fde h42 (by omega) (by omega) hi2
        subst hke
        exact j_vret C d_M_copy_74 (⟨rfl, bk, hMi, hb1, hb2⟩) (by omega) (by omega)
      · have hk3 : k < K := fdh h42 (by omega) (by omega)
        obtain ⟨hf1, hf2, hf3⟩ := hF (by omega)
        refine j_aload_n (i := 0) (t := 46) C d_M_copy_45 rfl rfl (by first | exact jrv_r | exact jrv_n | exact jrv_f) rfl ?_
        refine j_get (t := 49) C fl_M_24 d_M_copy_46 hMi.1 rfl rfl ?_
        refine j_iload_n (i := 3) (t := 50) C d_M_copy_49 rfl rfl rfl ?_
        refine j_iload (t := 52) C d_M_copy_50 rfl rfl ?_
        refine j_iadd (t := 53) C d_M_copy_52 rfl ?_
        refine j_aload_n (i := 0) (t := 54) C d_M_copy_53 rfl rfl (by first | exact jrv_r | exact jrv_n | exact jrv_f) rfl ?_
        refine j_get (t := 57) C fl_M_24 d_M_copy_54 hMi.1 rfl rfl ?_
        refine j_aload_n (i := 0) (t := 58) C d_M_copy_57 rfl rfl (by first | exact jrv_r | exact jrv_n | exact jrv_f) rfl ?_
        refine j_get (t := 61) C fl_M_17 d_M_copy_58 hMi.1 rfl rfl ?_
        refine j_iload_n (i := 2) (t := 62) C d_M_copy_61 rfl rfl rfl ?_
        refine j_ld_from (i := i1) (t := 63) C d_M_copy_62 hMi (by first | rfl | simp only [nI_add, nI_mul, nI_1]) (by omega) ((upd_ne (Ne.symm hne)).trans hf1) rfl ?_
        refine j_iload (t := 65) C d_M_copy_63 rfl rfl ?_
        refine j_iadd (t := 66) C d_M_copy_65 rfl ?_
        refine j_ld_bytes (i := F + k) (t := 67) C d_M_copy_66 hMi (by first | rfl | simp only [nI_add, nI_mul, nI_1]) (by omega) (hb2 (F + k) (by omega)) rfl ?_
        refine j_st_bytes (i := P + k) (t := 68) C d_M_copy_67 hMi (by rw [nI_add]) (by omega) rfl (fun w67 M67 => ?_)
        refine j_iinc (y := _ + 1) (t := 71) (lv' := [(0, _), (1, _), (2, _), (3, _), (4, _)]) C d_M_copy_68 rfl rfl (by decide) (by decide) rfl rfl ?_
        refine j_goto (tgt := 34) C d_M_copy_71 (by decide) ?_
        rw [nI_1]
        exact ih (k + 1) w67 _ (by omega) (by omega) M67 (upd_nx hb1) (fun b hb => (upd_ne (by omega)).trans (hb2 b hb))
  exact loop (K + 1) 0 w30 (mg_bytes m) (by omega) (Nat.zero_le _) M30 (fun j hj => absurd hj (Nat.not_lt_zero _)) (fun _ _ => rfl)
