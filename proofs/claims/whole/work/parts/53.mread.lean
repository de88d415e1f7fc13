set_option maxHeartbeats 4000000 in
set_option maxRecDepth 100000 in
/-- areLiterals -/
theorem c_M_areLiterals (l : Launch) (o : Nat) (q : Nat → Nat) (m : jM) (s : jS) (ty p n : Int32) : MC l y_M_areLiterals b_M_areLiterals 6 (some .boolean) 0 0 0
    (fun G w av => (av = [.ref o, .int p, .int n, .int ty] ∧ MH G w o q m ∧ relM s m ∧ WF s))
    (fun G w av r w' => w' = w ∧ r = some (.int (bI (aLt ty p n (g_ln s) (g_lit s))))) := by
  refine MC.of 99 (by decide) ?_
  intro X w av hl C hnm hp
  obtain ⟨rfl, hM, hR, hW⟩ := hp
  obtain ⟨⟨r_tn, r_tp⟩, ⟨r_cc, r_ln, r_sn, r_zn⟩, r_col, r_new, r_sz, r_lit, r_st, r_zt⟩ := id hR
  obtain ⟨wtn, wtp, wcc, wln, wsn, wzn, wcol, wlit, wst, wzt⟩ := id hW
  refine ⟨[(0, _), (1, _), (2, _), (3, _)], rfl, Nat.le_of_ble_eq_true rfl, rfl, ?_⟩
  by_cases hc : 0 ≤ p.toInt ∧ 1 ≤ n.toInt ∧ p.toInt + n.toInt ≤ g_ln s
  · obtain ⟨P, N1, rfl, rfl, hPN, hN1, hAE⟩ := aL_t (ty := ty) (lit := g_lit s) wln hc
    have loop : ∀ (qq i : Nat) (b : Bool), N1 + 1 ≤ i + qq → i ≤ N1 → b = tyAll ty (g_lit s) P i → J X (6, 99) (jQ X (fun r w' => w' = w ∧ r = some (.int (bI (aLt ty (nI P) (nI N1) (g_ln s) (g_lit s))))) 0 0) w 0 0 28 [(0, .ref o), (1, .int (nI P)), (2, .int (nI N1)), (3, .int ty), (4, .int (bI b)), (5, .int (nI i))] [] := by
      intro qq
      induction qq with
      | zero => intro i b h1 h2; omega
      | succ qq ih =>
        intro i b hi1 hi2 hb
        refine j_iload (t := 30) C d_M_areLiterals_28 rfl rfl ?_
        refine j_if_eq (tgt := 65) (t := 33) C d_M_areLiterals_30 (by decide) rfl (fun h30 => ?_) (fun h30 => ?_)
        · refine j_iload (t := 67) C d_M_areLiterals_65 rfl rfl ?_
          exact j_iret C d_M_areLiterals_67 (by first | rfl | exact nar_b) (⟨rfl, by first | (rw [bI_0] at h30; rw [hAE, h30, tyAll_mono (h30 ▸ hb).symm hi2]) | (rw [nI_leI (by omega) (by omega)] at h36; rw [hAE, hb, show i = N1 by omega])⟩) (by omega) (by omega)
        · rw [bI_0, Bool.not_eq_false] at h30
          refine j_iload (t := 35) C d_M_areLiterals_33 rfl rfl ?_
          refine j_iload_n (i := 2) (t := 36) C d_M_areLiterals_35 rfl rfl rfl ?_
          refine j_icmp_ge (tgt := 65) (t := 39) C d_M_areLiterals_36 (by decide) rfl (fun h36 => ?_) (fun h36 => ?_)
          · refine j_iload (t := 67) C d_M_areLiterals_65 rfl rfl ?_
            exact j_iret C d_M_areLiterals_67 (by first | rfl | exact nar_b) (⟨rfl, by first | (rw [bI_0] at h30; rw [hAE, h30, tyAll_mono (h30 ▸ hb).symm hi2]) | (rw [nI_leI (by omega) (by omega)] at h36; rw [hAE, hb, show i = N1 by omega])⟩) (by omega) (by omega)
          · rw [nI_leI (by omega) (by omega)] at h36
            refine j_aload_n (i := 0) (t := 40) C d_M_areLiterals_39 rfl rfl (by first | exact jrv_r | exact jrv_n | exact jrv_f) rfl ?_
            refine j_get (t := 43) C fl_M_55 d_M_areLiterals_40 hM.1 rfl rfl ?_
            refine j_iload_n (i := 1) (t := 44) C d_M_areLiterals_43 rfl rfl rfl ?_
            refine j_iload (t := 46) C d_M_areLiterals_44 rfl rfl ?_
            refine j_iadd (t := 47) C d_M_areLiterals_46 rfl ?_
            refine j_ld_lt (i := P + i) (t := 48) C d_M_areLiterals_47 hM (by first | rfl | simp only [nI_add, nI_mul, nI_1]) (by omega) ((r_lit (P + i) (by omega)).1) rfl ?_
            refine j_iload_n (i := 3) (t := 49) C d_M_areLiterals_48 rfl rfl rfl ?_
            refine j_icmp_ne (tgt := 56) (t := 52) C d_M_areLiterals_49 (by decide) rfl (fun h49 => ?_) (fun h49 => ?_)
            · refine j_iconst (x := 0) (t := 57) C d_M_areLiterals_56 rfl rfl ?_
              refine j_istore (i := 4) (t := 59) (lv' := [(0, _), (1, _), (2, _), (3, _), (4, _), (5, _)]) C d_M_areLiterals_57 (by decide) (by decide) rfl rfl ?_
              refine j_iinc (y := _ + 1) (t := 62) (lv' := [(0, _), (1, _), (2, _), (3, _), (4, _), (5, _)]) C d_M_areLiterals_59 rfl rfl (by decide) (by decide) rfl rfl ?_
              refine j_goto (tgt := 28) C d_M_areLiterals_62 (by decide) ?_
              rw [nI_1]
              first
              | exact ih (i + 1) true (by omega) (by omega) (tyAll_n (hb.symm.trans h30) h49).symm
              | exact ih (i + 1) false (by omega) (by omega) (tyAll_f h49 (by omega)).symm
            · refine j_iconst (x := 1) (t := 53) C d_M_areLiterals_52 rfl rfl ?_
              refine j_goto (tgt := 57) C d_M_areLiterals_53 (by decide) ?_
              refine j_istore (i := 4) (t := 59) (lv' := [(0, _), (1, _), (2, _), (3, _), (4, _), (5, _)]) C d_M_areLiterals_57 (by decide) (by decide) rfl rfl ?_
              refine j_iinc (y := _ + 1) (t := 62) (lv' := [(0, _), (1, _), (2, _), (3, _), (4, _), (5, _)]) C d_M_areLiterals_59 rfl rfl (by decide) (by decide) rfl rfl ?_
              refine j_goto (tgt := 28) C d_M_areLiterals_62 (by decide) ?_
              rw [nI_1]
              first
              | exact ih (i + 1) true (by omega) (by omega) (tyAll_n (hb.symm.trans h30) h49).symm
              | exact ih (i + 1) false (by omega) (by omega) (tyAll_f h49 (by omega)).symm
    refine j_iload_n (i := 1) (t := 1) C d_M_areLiterals_0 rfl rfl rfl ?_
    refine j_if_lt (tgt := 22) (t := 4) C d_M_areLiterals_1 (by decide) rfl (fun h1 => absurd h1 (nI_pos (by omega))) (fun h1 => ?_)
    refine j_iload_n (i := 2) (t := 5) C d_M_areLiterals_4 rfl rfl rfl ?_
    refine j_if_le (tgt := 22) (t := 8) C d_M_areLiterals_5 (by decide) rfl (fun h5 => absurd h5 (nI_nle (by omega) (by omega))) (fun h5 => ?_)
    refine j_iload_n (i := 2) (t := 9) C d_M_areLiterals_8 rfl rfl rfl ?_
    refine j_aload_n (i := 0) (t := 10) C d_M_areLiterals_9 rfl rfl (by first | exact jrv_r | exact jrv_n | exact jrv_f) rfl ?_
    refine j_get (t := 13) C fl_M_101 d_M_areLiterals_10 hM.1 rfl rfl ?_
    refine j_iload_n (i := 1) (t := 14) C d_M_areLiterals_13 rfl rfl rfl ?_
    rw [r_ln]
    refine j_isub (t := 15) C d_M_areLiterals_14 rfl ?_
    rw [pk_sub (by omega)]
    refine j_icmp_gt (tgt := 22) (t := 18) C d_M_areLiterals_15 (by decide) rfl (fun h15 => absurd h15 (Int32.not_lt.mpr (nI_le (by omega) (by omega)))) (fun h15 => ?_)
    refine j_iconst (x := 1) (t := 19) C d_M_areLiterals_18 rfl rfl ?_
    refine j_goto (tgt := 23) C d_M_areLiterals_19 (by decide) ?_
    refine j_istore (i := 4) (t := 25) (lv' := [(0, _), (1, _), (2, _), (3, _), (4, _)]) C d_M_areLiterals_23 (by decide) (by decide) rfl rfl ?_
    refine j_iconst (x := 0) (t := 26) C d_M_areLiterals_25 rfl rfl ?_
    refine j_istore (i := 5) (t := 28) (lv' := [(0, _), (1, _), (2, _), (3, _), (4, _), (5, _)]) C d_M_areLiterals_26 (by decide) (by decide) rfl rfl ?_
    exact loop (N1 + 1) 0 true (by omega) (Nat.zero_le _) rfl
  · refine j_iload_n (i := 1) (t := 1) C d_M_areLiterals_0 rfl rfl rfl ?_
    refine j_if_lt (tgt := 22) (t := 4) C d_M_areLiterals_1 (by decide) rfl (fun h1 => ?_) (fun h1 => ?_)
    · refine j_iconst (x := 0) (t := 23) C d_M_areLiterals_22 rfl rfl ?_
      refine j_istore (i := 4) (t := 25) (lv' := [(0, _), (1, _), (2, _), (3, _), (4, _)]) C d_M_areLiterals_23 (by decide) (by decide) rfl rfl ?_
      refine j_iconst (x := 0) (t := 26) C d_M_areLiterals_25 rfl rfl ?_
      refine j_istore (i := 5) (t := 28) (lv' := [(0, _), (1, _), (2, _), (3, _), (4, _), (5, _)]) C d_M_areLiterals_26 (by decide) (by decide) rfl rfl ?_
      refine j_iload (t := 30) C d_M_areLiterals_28 rfl rfl ?_
      refine j_if_eq (tgt := 65) (t := 33) C d_M_areLiterals_30 (by decide) rfl (fun h30 => ?_) (fun h30 => absurd h30 (fun z => z rfl))
      refine j_iload (t := 67) C d_M_areLiterals_65 rfl rfl ?_
      exact j_iret C d_M_areLiterals_67 (by first | rfl | exact nar_b) (⟨rfl, by rw [aL_f hc]; rfl⟩) (by omega) (by omega)
    · refine j_iload_n (i := 2) (t := 5) C d_M_areLiterals_4 rfl rfl rfl ?_
      refine j_if_le (tgt := 22) (t := 8) C d_M_areLiterals_5 (by decide) rfl (fun h5 => ?_) (fun h5 => ?_)
      · refine j_iconst (x := 0) (t := 23) C d_M_areLiterals_22 rfl rfl ?_
        refine j_istore (i := 4) (t := 25) (lv' := [(0, _), (1, _), (2, _), (3, _), (4, _)]) C d_M_areLiterals_23 (by decide) (by decide) rfl rfl ?_
        refine j_iconst (x := 0) (t := 26) C d_M_areLiterals_25 rfl rfl ?_
        refine j_istore (i := 5) (t := 28) (lv' := [(0, _), (1, _), (2, _), (3, _), (4, _), (5, _)]) C d_M_areLiterals_26 (by decide) (by decide) rfl rfl ?_
        refine j_iload (t := 30) C d_M_areLiterals_28 rfl rfl ?_
        refine j_if_eq (tgt := 65) (t := 33) C d_M_areLiterals_30 (by decide) rfl (fun h30 => ?_) (fun h30 => absurd h30 (fun z => z rfl))
        refine j_iload (t := 67) C d_M_areLiterals_65 rfl rfl ?_
        exact j_iret C d_M_areLiterals_67 (by first | rfl | exact nar_b) (⟨rfl, by rw [aL_f hc]; rfl⟩) (by omega) (by omega)
      · refine j_iload_n (i := 2) (t := 9) C d_M_areLiterals_8 rfl rfl rfl ?_
        refine j_aload_n (i := 0) (t := 10) C d_M_areLiterals_9 rfl rfl (by first | exact jrv_r | exact jrv_n | exact jrv_f) rfl ?_
        refine j_get (t := 13) C fl_M_101 d_M_areLiterals_10 hM.1 rfl rfl ?_
        refine j_iload_n (i := 1) (t := 14) C d_M_areLiterals_13 rfl rfl rfl ?_
        rw [r_ln]
        refine j_isub (t := 15) C d_M_areLiterals_14 rfl ?_
        refine j_icmp_gt (tgt := 22) (t := 18) C d_M_areLiterals_15 (by decide) rfl (fun h15 => ?_) (fun h15 => ?_)
        · refine j_iconst (x := 0) (t := 23) C d_M_areLiterals_22 rfl rfl ?_
          refine j_istore (i := 4) (t := 25) (lv' := [(0, _), (1, _), (2, _), (3, _), (4, _)]) C d_M_areLiterals_23 (by decide) (by decide) rfl rfl ?_
          refine j_iconst (x := 0) (t := 26) C d_M_areLiterals_25 rfl rfl ?_
          refine j_istore (i := 5) (t := 28) (lv' := [(0, _), (1, _), (2, _), (3, _), (4, _), (5, _)]) C d_M_areLiterals_26 (by decide) (by decide) rfl rfl ?_
          refine j_iload (t := 30) C d_M_areLiterals_28 rfl rfl ?_
          refine j_if_eq (tgt := 65) (t := 33) C d_M_areLiterals_30 (by decide) rfl (fun h30 => ?_) (fun h30 => absurd h30 (fun z => z rfl))
          refine j_iload (t := 67) C d_M_areLiterals_65 rfl rfl ?_
          exact j_iret C d_M_areLiterals_67 (by first | rfl | exact nar_b) (⟨rfl, by rw [aL_f hc]; rfl⟩) (by omega) (by omega)
        · exact (aL_no wln hc h1 h5 (Int32.not_lt.mp h15)).elim

set_option maxHeartbeats 4000000 in
set_option maxRecDepth 100000 in
/-- isTest -/
theorem c_M_isTest (l : Launch) (o : Nat) (q : Nat → Nat) (m : jM) (s : jS) (kd x op y n : Int32) : MC l y_M_isTest b_M_isTest 6 (some .boolean) 1 0 0
    (fun G w av => (av = [.ref o, .int kd, .int x, .int op, .int y, .int n] ∧ MH G w o q m ∧ relM s m ∧ WF s) ∧ ¬ kd < 0 ∧ kd < 5)
    (fun G w av r w' => w' = w ∧ r = some (.int (bI (stFit s kd x op y n)))) := by
  refine MC.of 99 (by decide) ?_
  intro X w av hl C hnm hp
  obtain ⟨hp, hk0, hk5⟩ := hp
  obtain ⟨rfl, hM, hR, hW⟩ := hp
  obtain ⟨⟨r_tn, r_tp⟩, ⟨r_cc, r_ln, r_sn, r_zn⟩, r_col, r_new, r_sz, r_lit, r_st, r_zt⟩ := id hR
  obtain ⟨wtn, wtp, wcc, wln, wsn, wzn, wcol, wlit, wst, wzt⟩ := id hW
  refine ⟨[(0, _), (1, _), (2, _), (3, _), (4, _), (5, _)], rfl, Nat.le_of_ble_eq_true rfl, rfl, ?_⟩
  rcases kd_5 hk0 hk5 with rfl | rfl | rfl | rfl | rfl
  · refine j_aload_n (i := 0) (t := 1) C d_M_isTest_0 rfl rfl (by first | exact jrv_r | exact jrv_n | exact jrv_f) rfl ?_
    refine j_iload_n (i := 2) (t := 2) C d_M_isTest_1 rfl rfl rfl ?_
    refine j_callV (As := [_]) (t := 5) C (c_M_isColumn _ o q m s x) d_M_isTest_2 jb_M_isColumn ml_M_89 jv_M_isColumn hM.1 rfl rfl rfl (Nat.le_of_ble_eq_true rfl) (by decide) (by omega) (by omega) (⟨rfl, hM, r_cc⟩) rfl (fun r2 w2 p2 => ?_)
    obtain ⟨rfl, rfl⟩ := p2
    dsimp only [jst]
    refine j_if_ne (tgt := 10) (t := 8) C d_M_isTest_5 (by decide) rfl (fun h5 => ?_) (fun h5 => ?_)
    · obtain ⟨c, hcx⟩ := ci_some h5
      obtain ⟨hc, rfl⟩ := cix_some wcc hcx
      refine j_iload_n (i := 1) (t := 11) C d_M_isTest_10 rfl rfl rfl ?_
      refine j_iconst (x := 2) (t := 12) C d_M_isTest_11 rfl rfl ?_
      refine j_icmp_ge (tgt := 17) (t := 15) C d_M_isTest_12 (by decide) rfl (fun h12 => absurd h12 (by decide)) (fun h12 => ?_)
      refine j_iconst (x := 1) (t := 16) C d_M_isTest_15 rfl rfl ?_
      exact j_iret C d_M_isTest_16 (by first | rfl | exact nar_b) (⟨rfl, by simp [stFit, fitS, hcx, bI]⟩) (by omega) (by omega)
    · have hcn := ci_none h5
      refine j_iconst (x := 0) (t := 9) C d_M_isTest_8 rfl rfl ?_
      exact j_iret C d_M_isTest_9 (by first | rfl | exact nar_b) (⟨rfl, by simp [stFit, fitS, hcn, bI]⟩) (by omega) (by omega)
  · refine j_aload_n (i := 0) (t := 1) C d_M_isTest_0 rfl rfl (by first | exact jrv_r | exact jrv_n | exact jrv_f) rfl ?_
    refine j_iload_n (i := 2) (t := 2) C d_M_isTest_1 rfl rfl rfl ?_
    refine j_callV (As := [_]) (t := 5) C (c_M_isColumn _ o q m s x) d_M_isTest_2 jb_M_isColumn ml_M_89 jv_M_isColumn hM.1 rfl rfl rfl (Nat.le_of_ble_eq_true rfl) (by decide) (by omega) (by omega) (⟨rfl, hM, r_cc⟩) rfl (fun r2 w2 p2 => ?_)
    obtain ⟨rfl, rfl⟩ := p2
    dsimp only [jst]
    refine j_if_ne (tgt := 10) (t := 8) C d_M_isTest_5 (by decide) rfl (fun h5 => ?_) (fun h5 => ?_)
    · obtain ⟨c, hcx⟩ := ci_some h5
      obtain ⟨hc, rfl⟩ := cix_some wcc hcx
      refine j_iload_n (i := 1) (t := 11) C d_M_isTest_10 rfl rfl rfl ?_
      refine j_iconst (x := 2) (t := 12) C d_M_isTest_11 rfl rfl ?_
      refine j_icmp_ge (tgt := 17) (t := 15) C d_M_isTest_12 (by decide) rfl (fun h12 => absurd h12 (by decide)) (fun h12 => ?_)
      refine j_iconst (x := 1) (t := 16) C d_M_isTest_15 rfl rfl ?_
      exact j_iret C d_M_isTest_16 (by first | rfl | exact nar_b) (⟨rfl, by simp [stFit, fitS, hcx, bI]⟩) (by omega) (by omega)
    · have hcn := ci_none h5
      refine j_iconst (x := 0) (t := 9) C d_M_isTest_8 rfl rfl ?_
      exact j_iret C d_M_isTest_9 (by first | rfl | exact nar_b) (⟨rfl, by simp [stFit, fitS, hcn, bI]⟩) (by omega) (by omega)
  · refine j_aload_n (i := 0) (t := 1) C d_M_isTest_0 rfl rfl (by first | exact jrv_r | exact jrv_n | exact jrv_f) rfl ?_
    refine j_iload_n (i := 2) (t := 2) C d_M_isTest_1 rfl rfl rfl ?_
    refine j_callV (As := [_]) (t := 5) C (c_M_isColumn _ o q m s x) d_M_isTest_2 jb_M_isColumn ml_M_89 jv_M_isColumn hM.1 rfl rfl rfl (Nat.le_of_ble_eq_true rfl) (by decide) (by omega) (by omega) (⟨rfl, hM, r_cc⟩) rfl (fun r2 w2 p2 => ?_)
    obtain ⟨rfl, rfl⟩ := p2
    dsimp only [jst]
    refine j_if_ne (tgt := 10) (t := 8) C d_M_isTest_5 (by decide) rfl (fun h5 => ?_) (fun h5 => ?_)
    · obtain ⟨c, hcx⟩ := ci_some h5
      obtain ⟨hc, rfl⟩ := cix_some wcc hcx
      refine j_iload_n (i := 1) (t := 11) C d_M_isTest_10 rfl rfl rfl ?_
      refine j_iconst (x := 2) (t := 12) C d_M_isTest_11 rfl rfl ?_
      refine j_icmp_ge (tgt := 17) (t := 15) C d_M_isTest_12 (by decide) rfl (fun h12 => ?_) (fun h12 => absurd h12 (by decide))
      refine j_iload_n (i := 1) (t := 18) C d_M_isTest_17 rfl rfl rfl ?_
      refine j_iconst (x := 2) (t := 19) C d_M_isTest_18 rfl rfl ?_
      refine j_icmp_ne (tgt := 37) (t := 22) C d_M_isTest_19 (by decide) rfl (fun h19 => absurd h19 (by decide)) (fun h19 => ?_)
      refine j_aload_n (i := 0) (t := 23) C d_M_isTest_22 rfl rfl (by first | exact jrv_r | exact jrv_n | exact jrv_f) rfl ?_
      refine j_iload (t := 25) C d_M_isTest_23 rfl rfl ?_
      refine j_iload (t := 27) C d_M_isTest_25 rfl rfl ?_
      refine j_aload_n (i := 0) (t := 28) C d_M_isTest_27 rfl rfl (by first | exact jrv_r | exact jrv_n | exact jrv_f) rfl ?_
      refine j_get (t := 31) C fl_M_27 d_M_isTest_28 hM.1 rfl rfl ?_
      refine j_iload_n (i := 2) (t := 32) C d_M_isTest_31 rfl rfl rfl ?_
      refine j_ld_ty (i := c) (t := 33) C d_M_isTest_32 hM (by first | rfl | simp only [nI_add, nI_mul, nI_1]) (by omega) ((r_col c hc).1) rfl ?_
      refine j_callV (As := [_, _, _]) (t := 36) C (c_M_areLiterals _ o q m s (g_ty s c) y n) d_M_isTest_33 jb_M_areLiterals ml_M_105 jv_M_areLiterals hM.1 rfl rfl rfl (Nat.le_of_ble_eq_true rfl) (by decide) (by omega) (by omega) (⟨rfl, hM, hR, hW⟩) rfl (fun r33 w33 p33 => ?_)
      obtain ⟨rfl, rfl⟩ := p33
      dsimp only [jst]
      exact j_iret C d_M_isTest_36 (by first | rfl | exact nar_b) (⟨rfl, by simp [stFit, fitS, hcx, cty, tak]⟩) (by omega) (by omega)
    · have hcn := ci_none h5
      refine j_iconst (x := 0) (t := 9) C d_M_isTest_8 rfl rfl ?_
      exact j_iret C d_M_isTest_9 (by first | rfl | exact nar_b) (⟨rfl, by simp [stFit, fitS, hcn, bI]⟩) (by omega) (by omega)
  · refine j_aload_n (i := 0) (t := 1) C d_M_isTest_0 rfl rfl (by first | exact jrv_r | exact jrv_n | exact jrv_f) rfl ?_
    refine j_iload_n (i := 2) (t := 2) C d_M_isTest_1 rfl rfl rfl ?_
    refine j_callV (As := [_]) (t := 5) C (c_M_isColumn _ o q m s x) d_M_isTest_2 jb_M_isColumn ml_M_89 jv_M_isColumn hM.1 rfl rfl rfl (Nat.le_of_ble_eq_true rfl) (by decide) (by omega) (by omega) (⟨rfl, hM, r_cc⟩) rfl (fun r2 w2 p2 => ?_)
    obtain ⟨rfl, rfl⟩ := p2
    dsimp only [jst]
    refine j_if_ne (tgt := 10) (t := 8) C d_M_isTest_5 (by decide) rfl (fun h5 => ?_) (fun h5 => ?_)
    · obtain ⟨c, hcx⟩ := ci_some h5
      obtain ⟨hc, rfl⟩ := cix_some wcc hcx
      refine j_iload_n (i := 1) (t := 11) C d_M_isTest_10 rfl rfl rfl ?_
      refine j_iconst (x := 2) (t := 12) C d_M_isTest_11 rfl rfl ?_
      refine j_icmp_ge (tgt := 17) (t := 15) C d_M_isTest_12 (by decide) rfl (fun h12 => ?_) (fun h12 => absurd h12 (by decide))
      refine j_iload_n (i := 1) (t := 18) C d_M_isTest_17 rfl rfl rfl ?_
      refine j_iconst (x := 2) (t := 19) C d_M_isTest_18 rfl rfl ?_
      refine j_icmp_ne (tgt := 37) (t := 22) C d_M_isTest_19 (by decide) rfl (fun h19 => ?_) (fun h19 => absurd h19 (by decide))
      refine j_iload_n (i := 3) (t := 38) C d_M_isTest_37 rfl rfl rfl ?_
      refine j_if_lt (tgt := 46) (t := 41) C d_M_isTest_38 (by decide) rfl (fun h38 => ?_) (fun h38 => ?_)
      · refine j_iconst (x := 0) (t := 47) C d_M_isTest_46 rfl rfl ?_
        exact j_iret C d_M_isTest_47 (by first | rfl | exact nar_b) (⟨rfl, by first | simp [stFit, fitS, hcx, opK_f1 h38, bI] | simp [stFit, fitS, hcx, opK_f2 h43, bI]⟩) (by omega) (by omega)
      · refine j_iload_n (i := 3) (t := 42) C d_M_isTest_41 rfl rfl rfl ?_
        refine j_iconst (x := 5) (t := 43) C d_M_isTest_42 rfl rfl ?_
        refine j_icmp_le (tgt := 48) (t := 46) C d_M_isTest_43 (by decide) rfl (fun h43 => ?_) (fun h43 => ?_)
        · refine j_iload_n (i := 1) (t := 49) C d_M_isTest_48 rfl rfl rfl ?_
          refine j_iconst (x := 3) (t := 50) C d_M_isTest_49 rfl rfl ?_
          refine j_icmp_ne (tgt := 69) (t := 53) C d_M_isTest_50 (by decide) rfl (fun h50 => absurd h50 (by decide)) (fun h50 => ?_)
          refine j_aload_n (i := 0) (t := 54) C d_M_isTest_53 rfl rfl (by first | exact jrv_r | exact jrv_n | exact jrv_f) rfl ?_
          refine j_iload (t := 56) C d_M_isTest_54 rfl rfl ?_
          refine j_iconst (x := 1) (t := 57) C d_M_isTest_56 rfl rfl ?_
          refine j_aload_n (i := 0) (t := 58) C d_M_isTest_57 rfl rfl (by first | exact jrv_r | exact jrv_n | exact jrv_f) rfl ?_
          refine j_get (t := 61) C fl_M_27 d_M_isTest_58 hM.1 rfl rfl ?_
          refine j_iload_n (i := 2) (t := 62) C d_M_isTest_61 rfl rfl rfl ?_
          refine j_ld_ty (i := c) (t := 63) C d_M_isTest_62 hM (by first | rfl | simp only [nI_add, nI_mul, nI_1]) (by omega) ((r_col c hc).1) rfl ?_
          refine j_callV (As := [_, _, _]) (t := 66) C (c_M_areLiterals _ o q m s (g_ty s c) y 1) d_M_isTest_63 jb_M_areLiterals ml_M_105 jv_M_areLiterals hM.1 rfl rfl rfl (Nat.le_of_ble_eq_true rfl) (by decide) (by omega) (by omega) (⟨rfl, hM, hR, hW⟩) rfl (fun r63 w63 p63 => ?_)
          obtain ⟨rfl, rfl⟩ := p63
          dsimp only [jst]
          refine j_goto (tgt := 99) C d_M_isTest_66 (by decide) ?_
          exact j_iret C d_M_isTest_99 (by first | rfl | exact nar_b) (⟨rfl, by simp [stFit, fitS, hcx, opK_t h38 h43, cty, tak]⟩) (by omega) (by omega)
        · refine j_iconst (x := 0) (t := 47) C d_M_isTest_46 rfl rfl ?_
          exact j_iret C d_M_isTest_47 (by first | rfl | exact nar_b) (⟨rfl, by first | simp [stFit, fitS, hcx, opK_f1 h38, bI] | simp [stFit, fitS, hcx, opK_f2 h43, bI]⟩) (by omega) (by omega)
    · have hcn := ci_none h5
      refine j_iconst (x := 0) (t := 9) C d_M_isTest_8 rfl rfl ?_
      exact j_iret C d_M_isTest_9 (by first | rfl | exact nar_b) (⟨rfl, by simp [stFit, fitS, hcn, bI]⟩) (by omega) (by omega)
  · refine j_aload_n (i := 0) (t := 1) C d_M_isTest_0 rfl rfl (by first | exact jrv_r | exact jrv_n | exact jrv_f) rfl ?_
    refine j_iload_n (i := 2) (t := 2) C d_M_isTest_1 rfl rfl rfl ?_
    refine j_callV (As := [_]) (t := 5) C (c_M_isColumn _ o q m s x) d_M_isTest_2 jb_M_isColumn ml_M_89 jv_M_isColumn hM.1 rfl rfl rfl (Nat.le_of_ble_eq_true rfl) (by decide) (by omega) (by omega) (⟨rfl, hM, r_cc⟩) rfl (fun r2 w2 p2 => ?_)
    obtain ⟨rfl, rfl⟩ := p2
    dsimp only [jst]
    refine j_if_ne (tgt := 10) (t := 8) C d_M_isTest_5 (by decide) rfl (fun h5 => ?_) (fun h5 => ?_)
    · obtain ⟨c, hcx⟩ := ci_some h5
      obtain ⟨hc, rfl⟩ := cix_some wcc hcx
      refine j_iload_n (i := 1) (t := 11) C d_M_isTest_10 rfl rfl rfl ?_
      refine j_iconst (x := 2) (t := 12) C d_M_isTest_11 rfl rfl ?_
      refine j_icmp_ge (tgt := 17) (t := 15) C d_M_isTest_12 (by decide) rfl (fun h12 => ?_) (fun h12 => absurd h12 (by decide))
      refine j_iload_n (i := 1) (t := 18) C d_M_isTest_17 rfl rfl rfl ?_
      refine j_iconst (x := 2) (t := 19) C d_M_isTest_18 rfl rfl ?_
      refine j_icmp_ne (tgt := 37) (t := 22) C d_M_isTest_19 (by decide) rfl (fun h19 => ?_) (fun h19 => absurd h19 (by decide))
      refine j_iload_n (i := 3) (t := 38) C d_M_isTest_37 rfl rfl rfl ?_
      refine j_if_lt (tgt := 46) (t := 41) C d_M_isTest_38 (by decide) rfl (fun h38 => ?_) (fun h38 => ?_)
      · refine j_iconst (x := 0) (t := 47) C d_M_isTest_46 rfl rfl ?_
        exact j_iret C d_M_isTest_47 (by first | rfl | exact nar_b) (⟨rfl, by first | simp [stFit, fitS, hcx, opK_f1 h38, bI] | simp [stFit, fitS, hcx, opK_f2 h43, bI]⟩) (by omega) (by omega)
      · refine j_iload_n (i := 3) (t := 42) C d_M_isTest_41 rfl rfl rfl ?_
        refine j_iconst (x := 5) (t := 43) C d_M_isTest_42 rfl rfl ?_
        refine j_icmp_le (tgt := 48) (t := 46) C d_M_isTest_43 (by decide) rfl (fun h43 => ?_) (fun h43 => ?_)
        · refine j_iload_n (i := 1) (t := 49) C d_M_isTest_48 rfl rfl rfl ?_
          refine j_iconst (x := 3) (t := 50) C d_M_isTest_49 rfl rfl ?_
          refine j_icmp_ne (tgt := 69) (t := 53) C d_M_isTest_50 (by decide) rfl (fun h50 => ?_) (fun h50 => absurd h50 (by decide))
          refine j_aload_n (i := 0) (t := 70) C d_M_isTest_69 rfl rfl (by first | exact jrv_r | exact jrv_n | exact jrv_f) rfl ?_
          refine j_iload (t := 72) C d_M_isTest_70 rfl rfl ?_
          refine j_callV (As := [_]) (t := 75) C (c_M_isColumn _ o q m s y) d_M_isTest_72 jb_M_isColumn ml_M_89 jv_M_isColumn hM.1 rfl rfl rfl (Nat.le_of_ble_eq_true rfl) (by decide) (by omega) (by omega) (⟨rfl, hM, r_cc⟩) rfl (fun r72 w72 p72 => ?_)
          obtain ⟨rfl, rfl⟩ := p72
          dsimp only [jst]
          refine j_if_eq (tgt := 98) (t := 78) C d_M_isTest_75 (by decide) rfl (fun h75 => ?_) (fun h75 => ?_)
          · refine j_iconst (x := 0) (t := 99) C d_M_isTest_98 rfl rfl ?_
            exact j_iret C d_M_isTest_99 (by first | rfl | exact nar_b) (⟨rfl, by first | simp [stFit, fitS, hcx, opK_t h38 h43, ci_none h75, bI] | simp [stFit, fitS, hcx, opK_t h38 h43, cty, hdx, h91, bI]⟩) (by omega) (by omega)
          · obtain ⟨d, hdx⟩ := ci_some h75
            obtain ⟨hd, rfl⟩ := cix_some wcc hdx
            refine j_aload_n (i := 0) (t := 79) C d_M_isTest_78 rfl rfl (by first | exact jrv_r | exact jrv_n | exact jrv_f) rfl ?_
            refine j_get (t := 82) C fl_M_27 d_M_isTest_79 hM.1 rfl rfl ?_
            refine j_iload (t := 84) C d_M_isTest_82 rfl rfl ?_
            refine j_ld_ty (i := d) (t := 85) C d_M_isTest_84 hM (by first | rfl | simp only [nI_add, nI_mul, nI_1]) (by omega) ((r_col d hd).1) rfl ?_
            refine j_aload_n (i := 0) (t := 86) C d_M_isTest_85 rfl rfl (by first | exact jrv_r | exact jrv_n | exact jrv_f) rfl ?_
            refine j_get (t := 89) C fl_M_27 d_M_isTest_86 hM.1 rfl rfl ?_
            refine j_iload_n (i := 2) (t := 90) C d_M_isTest_89 rfl rfl rfl ?_
            refine j_ld_ty (i := c) (t := 91) C d_M_isTest_90 hM (by first | rfl | simp only [nI_add, nI_mul, nI_1]) (by omega) ((r_col c hc).1) rfl ?_
            refine j_icmp_ne (tgt := 98) (t := 94) C d_M_isTest_91 (by decide) rfl (fun h91 => ?_) (fun h91 => ?_)
            · refine j_iconst (x := 0) (t := 99) C d_M_isTest_98 rfl rfl ?_
              exact j_iret C d_M_isTest_99 (by first | rfl | exact nar_b) (⟨rfl, by first | simp [stFit, fitS, hcx, opK_t h38 h43, ci_none h75, bI] | simp [stFit, fitS, hcx, opK_t h38 h43, cty, hdx, h91, bI]⟩) (by omega) (by omega)
            · refine j_iconst (x := 1) (t := 95) C d_M_isTest_94 rfl rfl ?_
              refine j_goto (tgt := 99) C d_M_isTest_95 (by decide) ?_
              exact j_iret C d_M_isTest_99 (by first | rfl | exact nar_b) (⟨rfl, by first | simp [stFit, fitS, hcx, opK_t h38 h43, ci_none h75, bI] | simp [stFit, fitS, hcx, opK_t h38 h43, cty, hdx, h91, bI]⟩) (by omega) (by omega)
        · refine j_iconst (x := 0) (t := 47) C d_M_isTest_46 rfl rfl ?_
          exact j_iret C d_M_isTest_47 (by first | rfl | exact nar_b) (⟨rfl, by first | simp [stFit, fitS, hcx, opK_f1 h38, bI] | simp [stFit, fitS, hcx, opK_f2 h43, bI]⟩) (by omega) (by omega)
    · have hcn := ci_none h5
      refine j_iconst (x := 0) (t := 9) C d_M_isTest_8 rfl rfl ?_
      exact j_iret C d_M_isTest_9 (by first | rfl | exact nar_b) (⟨rfl, by simp [stFit, fitS, hcn, bI]⟩) (by omega) (by omega)

set_option maxHeartbeats 4000000 in
set_option maxRecDepth 100000 in
/-- isCondition -/
theorem c_M_isCondition (l : Launch) (o : Nat) (q : Nat → Nat) (m : jM) (s : jS) : MC l y_M_isCondition b_M_isCondition 4 (some .boolean) 0 0 0
    (fun G w av => (av = [.ref o] ∧ MH G w o q m ∧ relM s m ∧ WF s))
    (fun G w av r w' => w' = w ∧ r = some (.int (bI (isCnd (g_sk s) (g_sn s))))) := by
  refine MC.of 99 (by decide) ?_
  intro X w av hl C hnm hp
  obtain ⟨rfl, hM, hR, hW⟩ := hp
  obtain ⟨⟨r_tn, r_tp⟩, ⟨r_cc, r_ln, r_sn, r_zn⟩, r_col, r_new, r_sz, r_lit, r_st, r_zt⟩ := id hR
  obtain ⟨wtn, wtp, wcc, wln, wsn, wzn, wcol, wlit, wst, wzt⟩ := id hW
  refine ⟨[(0, _)], rfl, Nat.le_of_ble_eq_true rfl, rfl, ?_⟩
  have loop : ∀ (qq i : Nat) (v : Int32) (b : Bool), g_sn s + 1 ≤ i + qq → i ≤ g_sn s → ((b = true ∧ ∃ c, wN (g_sk s) i = some c ∧ v = nI c) ∨ (b = false ∧ wN (g_sk s) i = none)) → J X (4, 99) (jQ X (fun r w' => w' = w ∧ r = some (.int (bI (isCnd (g_sk s) (g_sn s))))) 0 0) w 0 0 6 [(0, .ref o), (1, .int v), (2, .int (bI b)), (3, .int (nI i))] [] := by
    intro qq
    induction qq with
    | zero => intro i v b h1 h2; omega
    | succ qq ih =>
      intro i v b hi1 hi2 hinv
      by_cases hi : i < g_sn s
      · have hkd := (r_st i hi).1
        by_cases h5 : g_sk s i < 5
        · rcases hinv with ⟨rfl, c, hw, rfl⟩ | ⟨rfl, hw⟩
          · have hci := wN_le hw
            refine j_iload_n (i := 3) (t := 7) C d_M_isCondition_6 rfl rfl rfl ?_
            refine j_aload_n (i := 0) (t := 8) C d_M_isCondition_7 rfl rfl (by first | exact jrv_r | exact jrv_n | exact jrv_f) rfl ?_
            refine j_get (t := 11) C fl_M_109 d_M_isCondition_8 hM.1 rfl rfl ?_
            rw [r_sn]
            refine j_icmp_ge (tgt := 95) (t := 14) C d_M_isCondition_11 (by decide) rfl (fun h11 => absurd h11 (fun z => absurd ((nI_leI (by omega) (by omega)).mp z) (by omega))) (fun h11 => ?_)
            refine j_iload_n (i := 2) (t := 15) C d_M_isCondition_14 rfl rfl rfl ?_
            refine j_if_eq (tgt := 55) (t := 18) C d_M_isCondition_15 (by decide) rfl (fun h15 => absurd h15 (by decide)) (fun h15 => ?_)
            refine j_iload_n (i := 1) (t := 19) C d_M_isCondition_18 rfl rfl rfl ?_
            refine j_aload_n (i := 0) (t := 20) C d_M_isCondition_19 rfl rfl (by first | exact jrv_r | exact jrv_n | exact jrv_f) rfl ?_
            refine j_get (t := 23) C fl_M_58 d_M_isCondition_20 hM.1 rfl rfl ?_
            refine j_iload_n (i := 3) (t := 24) C d_M_isCondition_23 rfl rfl rfl ?_
            refine j_ld_kd (i := i) (t := 25) C d_M_isCondition_24 hM (by first | rfl | simp only [nI_add, nI_mul, nI_1]) (by omega) (hkd) rfl ?_
            refine j_iconst (x := 5) (t := 26) C d_M_isCondition_25 rfl rfl ?_
            refine j_icmp_ge (tgt := 33) (t := 29) C d_M_isCondition_26 (by decide) rfl (fun h26 => absurd h26 (Int32.not_le.mpr h5)) (fun h26 => ?_)
            refine j_iconst (x := 0) (t := 30) C d_M_isCondition_29 rfl rfl ?_
            refine j_goto (tgt := 48) C d_M_isCondition_30 (by decide) ?_
            refine j_icmp_lt (tgt := 55) (t := 51) C d_M_isCondition_48 (by decide) rfl (fun h48 => absurd h48 (nI_pos (by omega))) (fun h48 => ?_)
            refine j_iconst (x := 1) (t := 52) C d_M_isCondition_51 rfl rfl ?_
            refine j_goto (tgt := 56) C d_M_isCondition_52 (by decide) ?_
            refine j_istore_n (i := 2) (t := 57) (lv' := [(0, _), (1, _), (2, _), (3, _)]) C d_M_isCondition_56 rfl (by decide) (by decide) rfl rfl ?_
            refine j_iload_n (i := 1) (t := 58) C d_M_isCondition_57 rfl rfl rfl ?_
            refine j_aload_n (i := 0) (t := 59) C d_M_isCondition_58 rfl rfl (by first | exact jrv_r | exact jrv_n | exact jrv_f) rfl ?_
            refine j_get (t := 62) C fl_M_58 d_M_isCondition_59 hM.1 rfl rfl ?_
            refine j_iload_n (i := 3) (t := 63) C d_M_isCondition_62 rfl rfl rfl ?_
            refine j_ld_kd (i := i) (t := 64) C d_M_isCondition_63 hM (by first | rfl | simp only [nI_add, nI_mul, nI_1]) (by omega) (hkd) rfl ?_
            refine j_iconst (x := 5) (t := 65) C d_M_isCondition_64 rfl rfl ?_
            refine j_icmp_ge (tgt := 72) (t := 68) C d_M_isCondition_65 (by decide) rfl (fun h65 => absurd h65 (Int32.not_le.mpr h5)) (fun h65 => ?_)
            refine j_iconst (x := 1) (t := 69) C d_M_isCondition_68 rfl rfl ?_
            refine j_goto (tgt := 87) C d_M_isCondition_69 (by decide) ?_
            refine j_iadd (t := 88) C d_M_isCondition_87 rfl ?_
            rw [nI_1]
            refine j_istore_n (i := 1) (t := 89) (lv' := [(0, _), (1, _), (2, _), (3, _)]) C d_M_isCondition_88 rfl (by decide) (by decide) rfl rfl ?_
            refine j_iinc (y := _ + 1) (t := 92) (lv' := [(0, _), (1, _), (2, _), (3, _)]) C d_M_isCondition_89 rfl rfl (by decide) (by decide) rfl rfl ?_
            refine j_goto (tgt := 6) C d_M_isCondition_92 (by decide) ?_
            rw [nI_1]
            first
            | exact ih (i + 1) _ true (by omega) (by omega) (Or.inl ⟨rfl, _, wN_ok hw (by rw [tk_a h5]; omega), by rw [tk_a h5]; rfl⟩)
            | exact ih (i + 1) _ false (by omega) (by omega) (Or.inr ⟨rfl, wN_bad hw (by rw [tk_a h5]; omega)⟩)
          · refine j_iload_n (i := 3) (t := 7) C d_M_isCondition_6 rfl rfl rfl ?_
            refine j_aload_n (i := 0) (t := 8) C d_M_isCondition_7 rfl rfl (by first | exact jrv_r | exact jrv_n | exact jrv_f) rfl ?_
            refine j_get (t := 11) C fl_M_109 d_M_isCondition_8 hM.1 rfl rfl ?_
            rw [r_sn]
            refine j_icmp_ge (tgt := 95) (t := 14) C d_M_isCondition_11 (by decide) rfl (fun h11 => absurd h11 (fun z => absurd ((nI_leI (by omega) (by omega)).mp z) (by omega))) (fun h11 => ?_)
            refine j_iload_n (i := 2) (t := 15) C d_M_isCondition_14 rfl rfl rfl ?_
            refine j_if_eq (tgt := 55) (t := 18) C d_M_isCondition_15 (by decide) rfl (fun h15 => ?_) (fun h15 => absurd h15 (fun z => z rfl))
            refine j_iconst (x := 0) (t := 56) C d_M_isCondition_55 rfl rfl ?_
            refine j_istore_n (i := 2) (t := 57) (lv' := [(0, _), (1, _), (2, _), (3, _)]) C d_M_isCondition_56 rfl (by decide) (by decide) rfl rfl ?_
            refine j_iload_n (i := 1) (t := 58) C d_M_isCondition_57 rfl rfl rfl ?_
            refine j_aload_n (i := 0) (t := 59) C d_M_isCondition_58 rfl rfl (by first | exact jrv_r | exact jrv_n | exact jrv_f) rfl ?_
            refine j_get (t := 62) C fl_M_58 d_M_isCondition_59 hM.1 rfl rfl ?_
            refine j_iload_n (i := 3) (t := 63) C d_M_isCondition_62 rfl rfl rfl ?_
            refine j_ld_kd (i := i) (t := 64) C d_M_isCondition_63 hM (by first | rfl | simp only [nI_add, nI_mul, nI_1]) (by omega) (hkd) rfl ?_
            refine j_iconst (x := 5) (t := 65) C d_M_isCondition_64 rfl rfl ?_
            refine j_icmp_ge (tgt := 72) (t := 68) C d_M_isCondition_65 (by decide) rfl (fun h65 => absurd h65 (Int32.not_le.mpr h5)) (fun h65 => ?_)
            refine j_iconst (x := 1) (t := 69) C d_M_isCondition_68 rfl rfl ?_
            refine j_goto (tgt := 87) C d_M_isCondition_69 (by decide) ?_
            refine j_iadd (t := 88) C d_M_isCondition_87 rfl ?_
            refine j_istore_n (i := 1) (t := 89) (lv' := [(0, _), (1, _), (2, _), (3, _)]) C d_M_isCondition_88 rfl (by decide) (by decide) rfl rfl ?_
            refine j_iinc (y := _ + 1) (t := 92) (lv' := [(0, _), (1, _), (2, _), (3, _)]) C d_M_isCondition_89 rfl rfl (by decide) (by decide) rfl rfl ?_
            refine j_goto (tgt := 6) C d_M_isCondition_92 (by decide) ?_
            rw [nI_1]
            exact ih (i + 1) _ false (by omega) (by omega) (Or.inr ⟨rfl, wN_none hw 1⟩)
        · by_cases h6 : g_sk s i = 5
          · rcases hinv with ⟨rfl, c, hw, rfl⟩ | ⟨rfl, hw⟩
            · have hci := wN_le hw
              refine j_iload_n (i := 3) (t := 7) C d_M_isCondition_6 rfl rfl rfl ?_
              refine j_aload_n (i := 0) (t := 8) C d_M_isCondition_7 rfl rfl (by first | exact jrv_r | exact jrv_n | exact jrv_f) rfl ?_
              refine j_get (t := 11) C fl_M_109 d_M_isCondition_8 hM.1 rfl rfl ?_
              rw [r_sn]
              refine j_icmp_ge (tgt := 95) (t := 14) C d_M_isCondition_11 (by decide) rfl (fun h11 => absurd h11 (fun z => absurd ((nI_leI (by omega) (by omega)).mp z) (by omega))) (fun h11 => ?_)
              refine j_iload_n (i := 2) (t := 15) C d_M_isCondition_14 rfl rfl rfl ?_
              refine j_if_eq (tgt := 55) (t := 18) C d_M_isCondition_15 (by decide) rfl (fun h15 => absurd h15 (by decide)) (fun h15 => ?_)
              refine j_iload_n (i := 1) (t := 19) C d_M_isCondition_18 rfl rfl rfl ?_
              refine j_aload_n (i := 0) (t := 20) C d_M_isCondition_19 rfl rfl (by first | exact jrv_r | exact jrv_n | exact jrv_f) rfl ?_
              refine j_get (t := 23) C fl_M_58 d_M_isCondition_20 hM.1 rfl rfl ?_
              refine j_iload_n (i := 3) (t := 24) C d_M_isCondition_23 rfl rfl rfl ?_
              refine j_ld_kd (i := i) (t := 25) C d_M_isCondition_24 hM (by first | rfl | simp only [nI_add, nI_mul, nI_1]) (by omega) (hkd) rfl ?_
              refine j_iconst (x := 5) (t := 26) C d_M_isCondition_25 rfl rfl ?_
              refine j_icmp_ge (tgt := 33) (t := 29) C d_M_isCondition_26 (by decide) rfl (fun h26 => ?_) (fun h26 => absurd h26 (not_not_intro (Int32.not_lt.mp h5)))
              refine j_aload_n (i := 0) (t := 34) C d_M_isCondition_33 rfl rfl (by first | exact jrv_r | exact jrv_n | exact jrv_f) rfl ?_
              refine j_get (t := 37) C fl_M_58 d_M_isCondition_34 hM.1 rfl rfl ?_
              refine j_iload_n (i := 3) (t := 38) C d_M_isCondition_37 rfl rfl rfl ?_
              refine j_ld_kd (i := i) (t := 39) C d_M_isCondition_38 hM (by first | rfl | simp only [nI_add, nI_mul, nI_1]) (by omega) (hkd) rfl ?_
              refine j_iconst (x := 5) (t := 40) C d_M_isCondition_39 rfl rfl ?_
              refine j_icmp_ne (tgt := 47) (t := 43) C d_M_isCondition_40 (by decide) rfl (fun h40 => absurd h40 (not_not_intro h6)) (fun h40 => ?_)
              refine j_iconst (x := 1) (t := 44) C d_M_isCondition_43 rfl rfl ?_
              refine j_goto (tgt := 48) C d_M_isCondition_44 (by decide) ?_
              refine j_icmp_lt (tgt := 55) (t := 51) C d_M_isCondition_48 (by decide) rfl (fun h48 => ?_) (fun h48 => ?_)
              · refine j_iconst (x := 0) (t := 56) C d_M_isCondition_55 rfl rfl ?_
                refine j_istore_n (i := 2) (t := 57) (lv' := [(0, _), (1, _), (2, _), (3, _)]) C d_M_isCondition_56 rfl (by decide) (by decide) rfl rfl ?_
                refine j_iload_n (i := 1) (t := 58) C d_M_isCondition_57 rfl rfl rfl ?_
                refine j_aload_n (i := 0) (t := 59) C d_M_isCondition_58 rfl rfl (by first | exact jrv_r | exact jrv_n | exact jrv_f) rfl ?_
                refine j_get (t := 62) C fl_M_58 d_M_isCondition_59 hM.1 rfl rfl ?_
                refine j_iload_n (i := 3) (t := 63) C d_M_isCondition_62 rfl rfl rfl ?_
                refine j_ld_kd (i := i) (t := 64) C d_M_isCondition_63 hM (by first | rfl | simp only [nI_add, nI_mul, nI_1]) (by omega) (hkd) rfl ?_
                refine j_iconst (x := 5) (t := 65) C d_M_isCondition_64 rfl rfl ?_
                refine j_icmp_ge (tgt := 72) (t := 68) C d_M_isCondition_65 (by decide) rfl (fun h65 => ?_) (fun h65 => absurd h65 (not_not_intro (Int32.not_lt.mp h5)))
                refine j_aload_n (i := 0) (t := 73) C d_M_isCondition_72 rfl rfl (by first | exact jrv_r | exact jrv_n | exact jrv_f) rfl ?_
                refine j_get (t := 76) C fl_M_58 d_M_isCondition_73 hM.1 rfl rfl ?_
                refine j_iload_n (i := 3) (t := 77) C d_M_isCondition_76 rfl rfl rfl ?_
                refine j_ld_kd (i := i) (t := 78) C d_M_isCondition_77 hM (by first | rfl | simp only [nI_add, nI_mul, nI_1]) (by omega) (hkd) rfl ?_
                refine j_iconst (x := 5) (t := 79) C d_M_isCondition_78 rfl rfl ?_
                refine j_icmp_ne (tgt := 86) (t := 82) C d_M_isCondition_79 (by decide) rfl (fun h79 => absurd h79 (not_not_intro h6)) (fun h79 => ?_)
                refine j_iconst (x := 0) (t := 83) C d_M_isCondition_82 rfl rfl ?_
                refine j_goto (tgt := 87) C d_M_isCondition_83 (by decide) ?_
                refine j_iadd (t := 88) C d_M_isCondition_87 rfl ?_
                rw [show nI c + 0 = nI c from Int32.add_zero _]
                refine j_istore_n (i := 1) (t := 89) (lv' := [(0, _), (1, _), (2, _), (3, _)]) C d_M_isCondition_88 rfl (by decide) (by decide) rfl rfl ?_
                refine j_iinc (y := _ + 1) (t := 92) (lv' := [(0, _), (1, _), (2, _), (3, _)]) C d_M_isCondition_89 rfl rfl (by decide) (by decide) rfl rfl ?_
                refine j_goto (tgt := 6) C d_M_isCondition_92 (by decide) ?_
                rw [nI_1]
                first
                | exact ih (i + 1) _ true (by omega) (by omega) (Or.inl ⟨rfl, _, wN_ok hw (by rw [tk_b h6]; rw [nI_lt1 (by omega)] at h48; omega), by rw [tk_b h6]; rfl⟩)
                | exact ih (i + 1) _ false (by omega) (by omega) (Or.inr ⟨rfl, wN_bad hw (by rw [tk_b h6]; rw [nI_lt1 (by omega)] at h48; omega)⟩)
              · refine j_iconst (x := 1) (t := 52) C d_M_isCondition_51 rfl rfl ?_
                refine j_goto (tgt := 56) C d_M_isCondition_52 (by decide) ?_
                refine j_istore_n (i := 2) (t := 57) (lv' := [(0, _), (1, _), (2, _), (3, _)]) C d_M_isCondition_56 rfl (by decide) (by decide) rfl rfl ?_
                refine j_iload_n (i := 1) (t := 58) C d_M_isCondition_57 rfl rfl rfl ?_
                refine j_aload_n (i := 0) (t := 59) C d_M_isCondition_58 rfl rfl (by first | exact jrv_r | exact jrv_n | exact jrv_f) rfl ?_
                refine j_get (t := 62) C fl_M_58 d_M_isCondition_59 hM.1 rfl rfl ?_
                refine j_iload_n (i := 3) (t := 63) C d_M_isCondition_62 rfl rfl rfl ?_
                refine j_ld_kd (i := i) (t := 64) C d_M_isCondition_63 hM (by first | rfl | simp only [nI_add, nI_mul, nI_1]) (by omega) (hkd) rfl ?_
                refine j_iconst (x := 5) (t := 65) C d_M_isCondition_64 rfl rfl ?_
                refine j_icmp_ge (tgt := 72) (t := 68) C d_M_isCondition_65 (by decide) rfl (fun h65 => ?_) (fun h65 => absurd h65 (not_not_intro (Int32.not_lt.mp h5)))
                refine j_aload_n (i := 0) (t := 73) C d_M_isCondition_72 rfl rfl (by first | exact jrv_r | exact jrv_n | exact jrv_f) rfl ?_
                refine j_get (t := 76) C fl_M_58 d_M_isCondition_73 hM.1 rfl rfl ?_
                refine j_iload_n (i := 3) (t := 77) C d_M_isCondition_76 rfl rfl rfl ?_
                refine j_ld_kd (i := i) (t := 78) C d_M_isCondition_77 hM (by first | rfl | simp only [nI_add, nI_mul, nI_1]) (by omega) (hkd) rfl ?_
                refine j_iconst (x := 5) (t := 79) C d_M_isCondition_78 rfl rfl ?_
                refine j_icmp_ne (tgt := 86) (t := 82) C d_M_isCondition_79 (by decide) rfl (fun h79 => absurd h79 (not_not_intro h6)) (fun h79 => ?_)
                refine j_iconst (x := 0) (t := 83) C d_M_isCondition_82 rfl rfl ?_
                refine j_goto (tgt := 87) C d_M_isCondition_83 (by decide) ?_
                refine j_iadd (t := 88) C d_M_isCondition_87 rfl ?_
                rw [show nI c + 0 = nI c from Int32.add_zero _]
                refine j_istore_n (i := 1) (t := 89) (lv' := [(0, _), (1, _), (2, _), (3, _)]) C d_M_isCondition_88 rfl (by decide) (by decide) rfl rfl ?_
                refine j_iinc (y := _ + 1) (t := 92) (lv' := [(0, _), (1, _), (2, _), (3, _)]) C d_M_isCondition_89 rfl rfl (by decide) (by decide) rfl rfl ?_
                refine j_goto (tgt := 6) C d_M_isCondition_92 (by decide) ?_
                rw [nI_1]
                first
                | exact ih (i + 1) _ true (by omega) (by omega) (Or.inl ⟨rfl, _, wN_ok hw (by rw [tk_b h6]; rw [nI_lt1 (by omega)] at h48; omega), by rw [tk_b h6]; rfl⟩)
                | exact ih (i + 1) _ false (by omega) (by omega) (Or.inr ⟨rfl, wN_bad hw (by rw [tk_b h6]; rw [nI_lt1 (by omega)] at h48; omega)⟩)
            · refine j_iload_n (i := 3) (t := 7) C d_M_isCondition_6 rfl rfl rfl ?_
              refine j_aload_n (i := 0) (t := 8) C d_M_isCondition_7 rfl rfl (by first | exact jrv_r | exact jrv_n | exact jrv_f) rfl ?_
              refine j_get (t := 11) C fl_M_109 d_M_isCondition_8 hM.1 rfl rfl ?_
              rw [r_sn]
              refine j_icmp_ge (tgt := 95) (t := 14) C d_M_isCondition_11 (by decide) rfl (fun h11 => absurd h11 (fun z => absurd ((nI_leI (by omega) (by omega)).mp z) (by omega))) (fun h11 => ?_)
              refine j_iload_n (i := 2) (t := 15) C d_M_isCondition_14 rfl rfl rfl ?_
              refine j_if_eq (tgt := 55) (t := 18) C d_M_isCondition_15 (by decide) rfl (fun h15 => ?_) (fun h15 => absurd h15 (fun z => z rfl))
              refine j_iconst (x := 0) (t := 56) C d_M_isCondition_55 rfl rfl ?_
              refine j_istore_n (i := 2) (t := 57) (lv' := [(0, _), (1, _), (2, _), (3, _)]) C d_M_isCondition_56 rfl (by decide) (by decide) rfl rfl ?_
              refine j_iload_n (i := 1) (t := 58) C d_M_isCondition_57 rfl rfl rfl ?_
              refine j_aload_n (i := 0) (t := 59) C d_M_isCondition_58 rfl rfl (by first | exact jrv_r | exact jrv_n | exact jrv_f) rfl ?_
              refine j_get (t := 62) C fl_M_58 d_M_isCondition_59 hM.1 rfl rfl ?_
              refine j_iload_n (i := 3) (t := 63) C d_M_isCondition_62 rfl rfl rfl ?_
              refine j_ld_kd (i := i) (t := 64) C d_M_isCondition_63 hM (by first | rfl | simp only [nI_add, nI_mul, nI_1]) (by omega) (hkd) rfl ?_
              refine j_iconst (x := 5) (t := 65) C d_M_isCondition_64 rfl rfl ?_
              refine j_icmp_ge (tgt := 72) (t := 68) C d_M_isCondition_65 (by decide) rfl (fun h65 => ?_) (fun h65 => absurd h65 (not_not_intro (Int32.not_lt.mp h5)))
              refine j_aload_n (i := 0) (t := 73) C d_M_isCondition_72 rfl rfl (by first | exact jrv_r | exact jrv_n | exact jrv_f) rfl ?_
              refine j_get (t := 76) C fl_M_58 d_M_isCondition_73 hM.1 rfl rfl ?_
              refine j_iload_n (i := 3) (t := 77) C d_M_isCondition_76 rfl rfl rfl ?_
              refine j_ld_kd (i := i) (t := 78) C d_M_isCondition_77 hM (by first | rfl | simp only [nI_add, nI_mul, nI_1]) (by omega) (hkd) rfl ?_
              refine j_iconst (x := 5) (t := 79) C d_M_isCondition_78 rfl rfl ?_
              refine j_icmp_ne (tgt := 86) (t := 82) C d_M_isCondition_79 (by decide) rfl (fun h79 => absurd h79 (not_not_intro h6)) (fun h79 => ?_)
              refine j_iconst (x := 0) (t := 83) C d_M_isCondition_82 rfl rfl ?_
              refine j_goto (tgt := 87) C d_M_isCondition_83 (by decide) ?_
              refine j_iadd (t := 88) C d_M_isCondition_87 rfl ?_
              refine j_istore_n (i := 1) (t := 89) (lv' := [(0, _), (1, _), (2, _), (3, _)]) C d_M_isCondition_88 rfl (by decide) (by decide) rfl rfl ?_
              refine j_iinc (y := _ + 1) (t := 92) (lv' := [(0, _), (1, _), (2, _), (3, _)]) C d_M_isCondition_89 rfl rfl (by decide) (by decide) rfl rfl ?_
              refine j_goto (tgt := 6) C d_M_isCondition_92 (by decide) ?_
              rw [nI_1]
              exact ih (i + 1) _ false (by omega) (by omega) (Or.inr ⟨rfl, wN_none hw 1⟩)
          · rcases hinv with ⟨rfl, c, hw, rfl⟩ | ⟨rfl, hw⟩
            · have hci := wN_le hw
              refine j_iload_n (i := 3) (t := 7) C d_M_isCondition_6 rfl rfl rfl ?_
              refine j_aload_n (i := 0) (t := 8) C d_M_isCondition_7 rfl rfl (by first | exact jrv_r | exact jrv_n | exact jrv_f) rfl ?_
              refine j_get (t := 11) C fl_M_109 d_M_isCondition_8 hM.1 rfl rfl ?_
              rw [r_sn]
              refine j_icmp_ge (tgt := 95) (t := 14) C d_M_isCondition_11 (by decide) rfl (fun h11 => absurd h11 (fun z => absurd ((nI_leI (by omega) (by omega)).mp z) (by omega))) (fun h11 => ?_)
              refine j_iload_n (i := 2) (t := 15) C d_M_isCondition_14 rfl rfl rfl ?_
              refine j_if_eq (tgt := 55) (t := 18) C d_M_isCondition_15 (by decide) rfl (fun h15 => absurd h15 (by decide)) (fun h15 => ?_)
              refine j_iload_n (i := 1) (t := 19) C d_M_isCondition_18 rfl rfl rfl ?_
              refine j_aload_n (i := 0) (t := 20) C d_M_isCondition_19 rfl rfl (by first | exact jrv_r | exact jrv_n | exact jrv_f) rfl ?_
              refine j_get (t := 23) C fl_M_58 d_M_isCondition_20 hM.1 rfl rfl ?_
              refine j_iload_n (i := 3) (t := 24) C d_M_isCondition_23 rfl rfl rfl ?_
              refine j_ld_kd (i := i) (t := 25) C d_M_isCondition_24 hM (by first | rfl | simp only [nI_add, nI_mul, nI_1]) (by omega) (hkd) rfl ?_
              refine j_iconst (x := 5) (t := 26) C d_M_isCondition_25 rfl rfl ?_
              refine j_icmp_ge (tgt := 33) (t := 29) C d_M_isCondition_26 (by decide) rfl (fun h26 => ?_) (fun h26 => absurd h26 (not_not_intro (Int32.not_lt.mp h5)))
              refine j_aload_n (i := 0) (t := 34) C d_M_isCondition_33 rfl rfl (by first | exact jrv_r | exact jrv_n | exact jrv_f) rfl ?_
              refine j_get (t := 37) C fl_M_58 d_M_isCondition_34 hM.1 rfl rfl ?_
              refine j_iload_n (i := 3) (t := 38) C d_M_isCondition_37 rfl rfl rfl ?_
              refine j_ld_kd (i := i) (t := 39) C d_M_isCondition_38 hM (by first | rfl | simp only [nI_add, nI_mul, nI_1]) (by omega) (hkd) rfl ?_
              refine j_iconst (x := 5) (t := 40) C d_M_isCondition_39 rfl rfl ?_
              refine j_icmp_ne (tgt := 47) (t := 43) C d_M_isCondition_40 (by decide) rfl (fun h40 => ?_) (fun h40 => absurd h40 (h6))
              refine j_iconst (x := 2) (t := 48) C d_M_isCondition_47 rfl rfl ?_
              refine j_icmp_lt (tgt := 55) (t := 51) C d_M_isCondition_48 (by decide) rfl (fun h48 => ?_) (fun h48 => ?_)
              · refine j_iconst (x := 0) (t := 56) C d_M_isCondition_55 rfl rfl ?_
                refine j_istore_n (i := 2) (t := 57) (lv' := [(0, _), (1, _), (2, _), (3, _)]) C d_M_isCondition_56 rfl (by decide) (by decide) rfl rfl ?_
                refine j_iload_n (i := 1) (t := 58) C d_M_isCondition_57 rfl rfl rfl ?_
                refine j_aload_n (i := 0) (t := 59) C d_M_isCondition_58 rfl rfl (by first | exact jrv_r | exact jrv_n | exact jrv_f) rfl ?_
                refine j_get (t := 62) C fl_M_58 d_M_isCondition_59 hM.1 rfl rfl ?_
                refine j_iload_n (i := 3) (t := 63) C d_M_isCondition_62 rfl rfl rfl ?_
                refine j_ld_kd (i := i) (t := 64) C d_M_isCondition_63 hM (by first | rfl | simp only [nI_add, nI_mul, nI_1]) (by omega) (hkd) rfl ?_
                refine j_iconst (x := 5) (t := 65) C d_M_isCondition_64 rfl rfl ?_
                refine j_icmp_ge (tgt := 72) (t := 68) C d_M_isCondition_65 (by decide) rfl (fun h65 => ?_) (fun h65 => absurd h65 (not_not_intro (Int32.not_lt.mp h5)))
                refine j_aload_n (i := 0) (t := 73) C d_M_isCondition_72 rfl rfl (by first | exact jrv_r | exact jrv_n | exact jrv_f) rfl ?_
                refine j_get (t := 76) C fl_M_58 d_M_isCondition_73 hM.1 rfl rfl ?_
                refine j_iload_n (i := 3) (t := 77) C d_M_isCondition_76 rfl rfl rfl ?_
                refine j_ld_kd (i := i) (t := 78) C d_M_isCondition_77 hM (by first | rfl | simp only [nI_add, nI_mul, nI_1]) (by omega) (hkd) rfl ?_
                refine j_iconst (x := 5) (t := 79) C d_M_isCondition_78 rfl rfl ?_
                refine j_icmp_ne (tgt := 86) (t := 82) C d_M_isCondition_79 (by decide) rfl (fun h79 => ?_) (fun h79 => absurd h79 (h6))
                refine j_iconst (x := (-1)) (t := 87) C d_M_isCondition_86 rfl rfl ?_
                try rw [nI_lt2 (by omega)] at h48
                refine j_iadd (t := 88) C d_M_isCondition_87 rfl ?_
                first
                | rw [nI_dn (by omega)]
                | skip
                refine j_istore_n (i := 1) (t := 89) (lv' := [(0, _), (1, _), (2, _), (3, _)]) C d_M_isCondition_88 rfl (by decide) (by decide) rfl rfl ?_
                refine j_iinc (y := _ + 1) (t := 92) (lv' := [(0, _), (1, _), (2, _), (3, _)]) C d_M_isCondition_89 rfl rfl (by decide) (by decide) rfl rfl ?_
                refine j_goto (tgt := 6) C d_M_isCondition_92 (by decide) ?_
                rw [nI_1]
                first
                | exact ih (i + 1) _ true (by omega) (by omega) (Or.inl ⟨rfl, _, wN_ok hw (by rw [tk_c h5 h6]; omega), by rw [tk_c h5 h6]; rfl⟩)
                | exact ih (i + 1) _ false (by omega) (by omega) (Or.inr ⟨rfl, wN_bad hw (by rw [tk_c h5 h6]; omega)⟩)
              · refine j_iconst (x := 1) (t := 52) C d_M_isCondition_51 rfl rfl ?_
                refine j_goto (tgt := 56) C d_M_isCondition_52 (by decide) ?_
                refine j_istore_n (i := 2) (t := 57) (lv' := [(0, _), (1, _), (2, _), (3, _)]) C d_M_isCondition_56 rfl (by decide) (by decide) rfl rfl ?_
                refine j_iload_n (i := 1) (t := 58) C d_M_isCondition_57 rfl rfl rfl ?_
                refine j_aload_n (i := 0) (t := 59) C d_M_isCondition_58 rfl rfl (by first | exact jrv_r | exact jrv_n | exact jrv_f) rfl ?_
                refine j_get (t := 62) C fl_M_58 d_M_isCondition_59 hM.1 rfl rfl ?_
                refine j_iload_n (i := 3) (t := 63) C d_M_isCondition_62 rfl rfl rfl ?_
                refine j_ld_kd (i := i) (t := 64) C d_M_isCondition_63 hM (by first | rfl | simp only [nI_add, nI_mul, nI_1]) (by omega) (hkd) rfl ?_
                refine j_iconst (x := 5) (t := 65) C d_M_isCondition_64 rfl rfl ?_
                refine j_icmp_ge (tgt := 72) (t := 68) C d_M_isCondition_65 (by decide) rfl (fun h65 => ?_) (fun h65 => absurd h65 (not_not_intro (Int32.not_lt.mp h5)))
                refine j_aload_n (i := 0) (t := 73) C d_M_isCondition_72 rfl rfl (by first | exact jrv_r | exact jrv_n | exact jrv_f) rfl ?_
                refine j_get (t := 76) C fl_M_58 d_M_isCondition_73 hM.1 rfl rfl ?_
                refine j_iload_n (i := 3) (t := 77) C d_M_isCondition_76 rfl rfl rfl ?_
                refine j_ld_kd (i := i) (t := 78) C d_M_isCondition_77 hM (by first | rfl | simp only [nI_add, nI_mul, nI_1]) (by omega) (hkd) rfl ?_
                refine j_iconst (x := 5) (t := 79) C d_M_isCondition_78 rfl rfl ?_
                refine j_icmp_ne (tgt := 86) (t := 82) C d_M_isCondition_79 (by decide) rfl (fun h79 => ?_) (fun h79 => absurd h79 (h6))
                refine j_iconst (x := (-1)) (t := 87) C d_M_isCondition_86 rfl rfl ?_
                try rw [nI_lt2 (by omega)] at h48
                refine j_iadd (t := 88) C d_M_isCondition_87 rfl ?_
                first
                | rw [nI_dn (by omega)]
                | skip
                refine j_istore_n (i := 1) (t := 89) (lv' := [(0, _), (1, _), (2, _), (3, _)]) C d_M_isCondition_88 rfl (by decide) (by decide) rfl rfl ?_
                refine j_iinc (y := _ + 1) (t := 92) (lv' := [(0, _), (1, _), (2, _), (3, _)]) C d_M_isCondition_89 rfl rfl (by decide) (by decide) rfl rfl ?_
                refine j_goto (tgt := 6) C d_M_isCondition_92 (by decide) ?_
                rw [nI_1]
                first
                | exact ih (i + 1) _ true (by omega) (by omega) (Or.inl ⟨rfl, _, wN_ok hw (by rw [tk_c h5 h6]; omega), by rw [tk_c h5 h6]; rfl⟩)
                | exact ih (i + 1) _ false (by omega) (by omega) (Or.inr ⟨rfl, wN_bad hw (by rw [tk_c h5 h6]; omega)⟩)
            · refine j_iload_n (i := 3) (t := 7) C d_M_isCondition_6 rfl rfl rfl ?_
              refine j_aload_n (i := 0) (t := 8) C d_M_isCondition_7 rfl rfl (by first | exact jrv_r | exact jrv_n | exact jrv_f) rfl ?_
              refine j_get (t := 11) C fl_M_109 d_M_isCondition_8 hM.1 rfl rfl ?_
              rw [r_sn]
              refine j_icmp_ge (tgt := 95) (t := 14) C d_M_isCondition_11 (by decide) rfl (fun h11 => absurd h11 (fun z => absurd ((nI_leI (by omega) (by omega)).mp z) (by omega))) (fun h11 => ?_)
              refine j_iload_n (i := 2) (t := 15) C d_M_isCondition_14 rfl rfl rfl ?_
              refine j_if_eq (tgt := 55) (t := 18) C d_M_isCondition_15 (by decide) rfl (fun h15 => ?_) (fun h15 => absurd h15 (fun z => z rfl))
              refine j_iconst (x := 0) (t := 56) C d_M_isCondition_55 rfl rfl ?_
              refine j_istore_n (i := 2) (t := 57) (lv' := [(0, _), (1, _), (2, _), (3, _)]) C d_M_isCondition_56 rfl (by decide) (by decide) rfl rfl ?_
              refine j_iload_n (i := 1) (t := 58) C d_M_isCondition_57 rfl rfl rfl ?_
              refine j_aload_n (i := 0) (t := 59) C d_M_isCondition_58 rfl rfl (by first | exact jrv_r | exact jrv_n | exact jrv_f) rfl ?_
              refine j_get (t := 62) C fl_M_58 d_M_isCondition_59 hM.1 rfl rfl ?_
              refine j_iload_n (i := 3) (t := 63) C d_M_isCondition_62 rfl rfl rfl ?_
              refine j_ld_kd (i := i) (t := 64) C d_M_isCondition_63 hM (by first | rfl | simp only [nI_add, nI_mul, nI_1]) (by omega) (hkd) rfl ?_
              refine j_iconst (x := 5) (t := 65) C d_M_isCondition_64 rfl rfl ?_
              refine j_icmp_ge (tgt := 72) (t := 68) C d_M_isCondition_65 (by decide) rfl (fun h65 => ?_) (fun h65 => absurd h65 (not_not_intro (Int32.not_lt.mp h5)))
              refine j_aload_n (i := 0) (t := 73) C d_M_isCondition_72 rfl rfl (by first | exact jrv_r | exact jrv_n | exact jrv_f) rfl ?_
              refine j_get (t := 76) C fl_M_58 d_M_isCondition_73 hM.1 rfl rfl ?_
              refine j_iload_n (i := 3) (t := 77) C d_M_isCondition_76 rfl rfl rfl ?_
              refine j_ld_kd (i := i) (t := 78) C d_M_isCondition_77 hM (by first | rfl | simp only [nI_add, nI_mul, nI_1]) (by omega) (hkd) rfl ?_
              refine j_iconst (x := 5) (t := 79) C d_M_isCondition_78 rfl rfl ?_
              refine j_icmp_ne (tgt := 86) (t := 82) C d_M_isCondition_79 (by decide) rfl (fun h79 => ?_) (fun h79 => absurd h79 (h6))
              refine j_iconst (x := (-1)) (t := 87) C d_M_isCondition_86 rfl rfl ?_
              refine j_iadd (t := 88) C d_M_isCondition_87 rfl ?_
              refine j_istore_n (i := 1) (t := 89) (lv' := [(0, _), (1, _), (2, _), (3, _)]) C d_M_isCondition_88 rfl (by decide) (by decide) rfl rfl ?_
              refine j_iinc (y := _ + 1) (t := 92) (lv' := [(0, _), (1, _), (2, _), (3, _)]) C d_M_isCondition_89 rfl rfl (by decide) (by decide) rfl rfl ?_
              refine j_goto (tgt := 6) C d_M_isCondition_92 (by decide) ?_
              rw [nI_1]
              exact ih (i + 1) _ false (by omega) (by omega) (Or.inr ⟨rfl, wN_none hw 1⟩)
      · refine j_iload_n (i := 3) (t := 7) C d_M_isCondition_6 rfl rfl rfl ?_
        refine j_aload_n (i := 0) (t := 8) C d_M_isCondition_7 rfl rfl (by first | exact jrv_r | exact jrv_n | exact jrv_f) rfl ?_
        refine j_get (t := 11) C fl_M_109 d_M_isCondition_8 hM.1 rfl rfl ?_
        rw [r_sn]
        refine j_icmp_ge (tgt := 95) (t := 14) C d_M_isCondition_11 (by decide) rfl (fun h11 => ?_) (fun h11 => absurd h11 (not_not_intro (nI_le (by omega) (by omega))))
        refine j_aload_n (i := 0) (t := 96) C d_M_isCondition_95 rfl rfl (by first | exact jrv_r | exact jrv_n | exact jrv_f) rfl ?_
        refine j_get (t := 99) C fl_M_109 d_M_isCondition_96 hM.1 rfl rfl ?_
        rw [r_sn]
        refine j_if_eq (tgt := 111) (t := 102) C d_M_isCondition_99 (by decide) rfl (fun h99 => ?_) (fun h99 => ?_)
        · refine j_iconst (x := 1) (t := 112) C d_M_isCondition_111 rfl rfl ?_
          refine j_goto (tgt := 116) C d_M_isCondition_112 (by decide) ?_
          exact j_iret C d_M_isCondition_116 (by first | rfl | exact nar_b) (⟨rfl, by
        have hi' : i = g_sn s := by omega
        rw [hi'] at hinv
        have h0 : nI (g_sn s) = 0 ↔ g_sn s = 0 := nI_eq (b := 0) (by omega) (by omega)
        first
        | (have z := h0.mp h99; simp [isCnd, z, bI])
        | (have z : ¬ g_sn s = 0 := fun z => h99 (h0.mpr z)
           rcases hinv with ⟨rfl, c, hw, rfl⟩ | ⟨rfl, hw⟩
           · have hcl := wN_le hw
             have h1 : nI c = 1 ↔ c = 1 := nI_eq (b := 1) (by omega) (by omega)
             first
             | exact absurd h103 (by decide)
             | (have hc1 := h1.mp h108; simp [isCnd, z, hw, hc1, bI])
             | (have hc1 : ¬ c = 1 := fun e => h108 (h1.mpr e); simp [isCnd, z, hw, hc1, bI])
           · first
             | exact absurd (show bI false = 0 from rfl) h103
             | simp [isCnd, z, hw, bI])⟩) (by omega) (by omega)
        · refine j_iload_n (i := 2) (t := 103) C d_M_isCondition_102 rfl rfl rfl ?_
          refine j_if_eq (tgt := 115) (t := 106) C d_M_isCondition_103 (by decide) rfl (fun h103 => ?_) (fun h103 => ?_)
          · refine j_iconst (x := 0) (t := 116) C d_M_isCondition_115 rfl rfl ?_
            exact j_iret C d_M_isCondition_116 (by first | rfl | exact nar_b) (⟨rfl, by
        have hi' : i = g_sn s := by omega
        rw [hi'] at hinv
        have h0 : nI (g_sn s) = 0 ↔ g_sn s = 0 := nI_eq (b := 0) (by omega) (by omega)
        first
        | (have z := h0.mp h99; simp [isCnd, z, bI])
        | (have z : ¬ g_sn s = 0 := fun z => h99 (h0.mpr z)
           rcases hinv with ⟨rfl, c, hw, rfl⟩ | ⟨rfl, hw⟩
           · have hcl := wN_le hw
             have h1 : nI c = 1 ↔ c = 1 := nI_eq (b := 1) (by omega) (by omega)
             first
             | exact absurd h103 (by decide)
             | (have hc1 := h1.mp h108; simp [isCnd, z, hw, hc1, bI])
             | (have hc1 : ¬ c = 1 := fun e => h108 (h1.mpr e); simp [isCnd, z, hw, hc1, bI])
           · first
             | exact absurd (show bI false = 0 from rfl) h103
             | simp [isCnd, z, hw, bI])⟩) (by omega) (by omega)
          · refine j_iload_n (i := 1) (t := 107) C d_M_isCondition_106 rfl rfl rfl ?_
            refine j_iconst (x := 1) (t := 108) C d_M_isCondition_107 rfl rfl ?_
            refine j_icmp_ne (tgt := 115) (t := 111) C d_M_isCondition_108 (by decide) rfl (fun h108 => ?_) (fun h108 => ?_)
            · refine j_iconst (x := 0) (t := 116) C d_M_isCondition_115 rfl rfl ?_
              exact j_iret C d_M_isCondition_116 (by first | rfl | exact nar_b) (⟨rfl, by
        have hi' : i = g_sn s := by omega
        rw [hi'] at hinv
        have h0 : nI (g_sn s) = 0 ↔ g_sn s = 0 := nI_eq (b := 0) (by omega) (by omega)
        first
        | (have z := h0.mp h99; simp [isCnd, z, bI])
        | (have z : ¬ g_sn s = 0 := fun z => h99 (h0.mpr z)
           rcases hinv with ⟨rfl, c, hw, rfl⟩ | ⟨rfl, hw⟩
           · have hcl := wN_le hw
             have h1 : nI c = 1 ↔ c = 1 := nI_eq (b := 1) (by omega) (by omega)
             first
             | exact absurd h103 (by decide)
             | (have hc1 := h1.mp h108; simp [isCnd, z, hw, hc1, bI])
             | (have hc1 : ¬ c = 1 := fun e => h108 (h1.mpr e); simp [isCnd, z, hw, hc1, bI])
           · first
             | exact absurd (show bI false = 0 from rfl) h103
             | simp [isCnd, z, hw, bI])⟩) (by omega) (by omega)
            · refine j_iconst (x := 1) (t := 112) C d_M_isCondition_111 rfl rfl ?_
              refine j_goto (tgt := 116) C d_M_isCondition_112 (by decide) ?_
              exact j_iret C d_M_isCondition_116 (by first | rfl | exact nar_b) (⟨rfl, by
        have hi' : i = g_sn s := by omega
        rw [hi'] at hinv
        have h0 : nI (g_sn s) = 0 ↔ g_sn s = 0 := nI_eq (b := 0) (by omega) (by omega)
        first
        | (have z := h0.mp h99; simp [isCnd, z, bI])
        | (have z : ¬ g_sn s = 0 := fun z => h99 (h0.mpr z)
           rcases hinv with ⟨rfl, c, hw, rfl⟩ | ⟨rfl, hw⟩
           · have hcl := wN_le hw
             have h1 : nI c = 1 ↔ c = 1 := nI_eq (b := 1) (by omega) (by omega)
             first
             | exact absurd h103 (by decide)
             | (have hc1 := h1.mp h108; simp [isCnd, z, hw, hc1, bI])
             | (have hc1 : ¬ c = 1 := fun e => h108 (h1.mpr e); simp [isCnd, z, hw, hc1, bI])
           · first
             | exact absurd (show bI false = 0 from rfl) h103
             | simp [isCnd, z, hw, bI])⟩) (by omega) (by omega)
  refine j_iconst (x := 0) (t := 1) C d_M_isCondition_0 rfl rfl ?_
  refine j_istore_n (i := 1) (t := 2) (lv' := [(0, _), (1, _)]) C d_M_isCondition_1 rfl (by decide) (by decide) rfl rfl ?_
  refine j_iconst (x := 1) (t := 3) C d_M_isCondition_2 rfl rfl ?_
  refine j_istore_n (i := 2) (t := 4) (lv' := [(0, _), (1, _), (2, _)]) C d_M_isCondition_3 rfl (by decide) (by decide) rfl rfl ?_
  refine j_iconst (x := 0) (t := 5) C d_M_isCondition_4 rfl rfl ?_
  refine j_istore_n (i := 3) (t := 6) (lv' := [(0, _), (1, _), (2, _), (3, _)]) C d_M_isCondition_5 rfl (by decide) (by decide) rfl rfl ?_
  exact loop (g_sn s + 1) 0 0 true (by omega) (Nat.zero_le _) (Or.inl ⟨rfl, 0, rfl, rfl⟩)
