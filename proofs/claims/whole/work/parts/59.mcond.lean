set_option maxHeartbeats 4000000 in
set_option maxRecDepth 100000 in
/-- condition -/
theorem c_M_condition (l : Launch) (o : Nat) (q : Nat → Nat) (m : jM) (s : jS) (at2 : Nat → Int32) (row : Int32) : MC l y_M_condition b_M_condition 6 (some .int) 4 0 0
    (fun G w av => (av = [.ref o, .int row] ∧ MH G w o q m ∧ relM s m ∧ WF s) ∧ isCnd (g_sk s) (g_sn s) = true ∧ ((row = -1 ∧ at2 = cAt s) ∨ ∃ e, row = nI e ∧ e < 1000 ∧ at2 = rAt s e ∧ ∀ j, j < g_sn s → rowsOK s e j))
    (fun G w av r w' => r = some (.int (outc at2 (g_sk s) (g_sn s))) ∧ ∃ pl, MH G w' o q (mp_pl m pl)) := by
  refine MC.of 99 (by decide) ?_
  intro X w av hl C hnm hp
  obtain ⟨hp, hcn, hmode⟩ := hp
  obtain ⟨rfl, hM, hR, hW⟩ := hp
  obtain ⟨⟨r_tn, r_tp⟩, ⟨r_cc, r_ln, r_sn, r_zn⟩, r_col, r_new, r_sz, r_lit, r_st, r_zt⟩ := id hR
  obtain ⟨wtn, wtp, wcc, wln, wsn, wzn, wcol, wlit, wst, wzt⟩ := id hW
  have h8 : ∀ j, ∃ n, n < 8 ∧ at2 j = nI n := fun j => by
    rcases hmode with ⟨-, rfl⟩ | ⟨e, -, -, rfl, -⟩
    · exact cAt_8 s j
    · exact rAt_8 s e j
  refine ⟨[(0, _), (1, _)], rfl, Nat.le_of_ble_eq_true rfl, rfl, ?_⟩
  have loop : ∀ (qq i c : Nat) (wi : jw) (pi : Nat → Int32), g_sn s + 1 ≤ i + qq → i ≤ g_sn s → wN (g_sk s) i = some c → (∀ j, j < c → pi j = stk at2 (g_sk s) i j) → MH (xG X) wi o q (mp_pl m pi) → J X (6, 99) (jQ X (fun r w' => r = some (.int (outc at2 (g_sk s) (g_sn s))) ∧ ∃ pl, MH (xG X) w' o q (mp_pl m pl)) 0 0) wi 0 0 4 [(0, .ref o), (1, .int row), (2, .int (nI c)), (3, .int (nI i))] [] := by
    intro qq
    induction qq with
    | zero => intro i c wi pi h1 h2; omega
    | succ qq ih =>
      intro i c wi pi hi1 hi2 hw hfi hMi
      have hci := wN_le hw
      by_cases hi : i < g_sn s
      · have hkd := (r_st i hi).1
        have hwn : wN (g_sk s) (g_sn s) = some 1 := by
          simp [isCnd, show ¬ g_sn s = 0 by omega] at hcn
          exact hcn
        have hnb := wN_up hi hwn hw
        have hwk := wN_ok hw hnb
        have hs8 := stk_8 h8 hw
        by_cases h5 : g_sk s i < 5
        · have ht := tk_a h5
          rcases hmode with ⟨rfl, rfl⟩ | ⟨e, rfl, he, rfl, hrw⟩
          · refine j_iload_n (i := 3) (t := 5) C d_M_condition_4 rfl rfl rfl ?_
            refine j_aload_n (i := 0) (t := 6) C d_M_condition_5 rfl rfl (by first | exact jrv_r | exact jrv_n | exact jrv_f) rfl ?_
            refine j_get (t := 9) C fl_M_109 d_M_condition_6 hMi.1 rfl rfl ?_
            rw [show mg_sn (mp_pl m pi) = nI (g_sn s) from r_sn]
            refine j_icmp_ge (tgt := 157) (t := 12) C d_M_condition_9 (by decide) rfl (fun h9 => absurd h9 (fun z => absurd ((nI_leI (by omega) (by omega)).mp z) (by omega))) (fun h9 => ?_)
            refine j_aload_n (i := 0) (t := 13) C d_M_condition_12 rfl rfl (by first | exact jrv_r | exact jrv_n | exact jrv_f) rfl ?_
            refine j_get (t := 16) C fl_M_58 d_M_condition_13 hMi.1 rfl rfl ?_
            refine j_iload_n (i := 3) (t := 17) C d_M_condition_16 rfl rfl rfl ?_
            refine j_ld_kd (i := i) (t := 18) C d_M_condition_17 hMi (by first | rfl | simp only [nI_add, nI_mul, nI_1]) (by omega) (hkd) rfl ?_
            refine j_iconst (x := 5) (t := 19) C d_M_condition_18 rfl rfl ?_
            refine j_icmp_ge (tgt := 53) (t := 22) C d_M_condition_19 (by decide) rfl (fun h19 => absurd h19 (Int32.not_le.mpr h5)) (fun h19 => ?_)
            refine j_aload_n (i := 0) (t := 23) C d_M_condition_22 rfl rfl (by first | exact jrv_r | exact jrv_n | exact jrv_f) rfl ?_
            refine j_get (t := 26) C fl_M_76 d_M_condition_23 hMi.1 rfl rfl ?_
            refine j_iload_n (i := 2) (t := 27) C d_M_condition_26 rfl rfl rfl ?_
            refine j_iload_n (i := 1) (t := 28) C d_M_condition_27 rfl rfl rfl ?_
            refine j_iconst (x := (-1)) (t := 29) C d_M_condition_28 rfl rfl ?_
            refine j_icmp_ne (tgt := 40) (t := 32) C d_M_condition_29 (by decide) rfl (fun h29 => absurd h29 (by decide)) (fun h29 => ?_)
            refine j_aload_n (i := 0) (t := 33) C d_M_condition_32 rfl rfl (by first | exact jrv_r | exact jrv_n | exact jrv_f) rfl ?_
            refine j_iload_n (i := 3) (t := 34) C d_M_condition_33 rfl rfl rfl ?_
            refine j_callV (As := [_]) (t := 37) C (c_M_canOf _ o q (mp_pl m pi) s i) d_M_condition_34 jb_M_canOf ml_M_124 jv_M_canOf hMi.1 rfl rfl rfl (Nat.le_of_ble_eq_true rfl) (by decide) (by omega) (by omega) (⟨⟨rfl, hMi, hR, hW⟩, hi, h5⟩) rfl (fun r34 w34 p34 => ?_)
            obtain ⟨rfl, rfl⟩ := p34
            dsimp only [jst]
            refine j_goto (tgt := 46) C d_M_condition_37 (by decide) ?_
            refine j_st_pl (i := c) (t := 47) C d_M_condition_46 hMi (by rfl) (by omega) rfl (fun w46 M46 => ?_)
            refine j_iinc (y := _ + 1) (t := 50) (lv' := [(0, _), (1, _), (2, _), (3, _)]) C d_M_condition_47 rfl rfl (by decide) (by decide) rfl rfl ?_
            rw [nI_1]
            refine j_goto (tgt := 151) C d_M_condition_50 (by decide) ?_
            refine j_iinc (y := _ + 1) (t := 154) (lv' := [(0, _), (1, _), (2, _), (3, _)]) C d_M_condition_151 rfl rfl (by decide) (by decide) rfl rfl ?_
            refine j_goto (tgt := 4) C d_M_condition_154 (by decide) ?_
            rw [nI_1, show c + 1 = c + 1 - tkN (g_sk s i) by omega]
            exact ih (i + 1) _ w46 _ (by omega) (by omega) hwk (stk_0 hw hfi ht) M46
          · refine j_iload_n (i := 3) (t := 5) C d_M_condition_4 rfl rfl rfl ?_
            refine j_aload_n (i := 0) (t := 6) C d_M_condition_5 rfl rfl (by first | exact jrv_r | exact jrv_n | exact jrv_f) rfl ?_
            refine j_get (t := 9) C fl_M_109 d_M_condition_6 hMi.1 rfl rfl ?_
            rw [show mg_sn (mp_pl m pi) = nI (g_sn s) from r_sn]
            refine j_icmp_ge (tgt := 157) (t := 12) C d_M_condition_9 (by decide) rfl (fun h9 => absurd h9 (fun z => absurd ((nI_leI (by omega) (by omega)).mp z) (by omega))) (fun h9 => ?_)
            refine j_aload_n (i := 0) (t := 13) C d_M_condition_12 rfl rfl (by first | exact jrv_r | exact jrv_n | exact jrv_f) rfl ?_
            refine j_get (t := 16) C fl_M_58 d_M_condition_13 hMi.1 rfl rfl ?_
            refine j_iload_n (i := 3) (t := 17) C d_M_condition_16 rfl rfl rfl ?_
            refine j_ld_kd (i := i) (t := 18) C d_M_condition_17 hMi (by first | rfl | simp only [nI_add, nI_mul, nI_1]) (by omega) (hkd) rfl ?_
            refine j_iconst (x := 5) (t := 19) C d_M_condition_18 rfl rfl ?_
            refine j_icmp_ge (tgt := 53) (t := 22) C d_M_condition_19 (by decide) rfl (fun h19 => absurd h19 (Int32.not_le.mpr h5)) (fun h19 => ?_)
            refine j_aload_n (i := 0) (t := 23) C d_M_condition_22 rfl rfl (by first | exact jrv_r | exact jrv_n | exact jrv_f) rfl ?_
            refine j_get (t := 26) C fl_M_76 d_M_condition_23 hMi.1 rfl rfl ?_
            refine j_iload_n (i := 2) (t := 27) C d_M_condition_26 rfl rfl rfl ?_
            refine j_iload_n (i := 1) (t := 28) C d_M_condition_27 rfl rfl rfl ?_
            refine j_iconst (x := (-1)) (t := 29) C d_M_condition_28 rfl rfl ?_
            refine j_icmp_ne (tgt := 40) (t := 32) C d_M_condition_29 (by decide) rfl (fun h29 => ?_) (fun h29 => absurd h29 (nI_m1 (by omega)))
            refine j_aload_n (i := 0) (t := 41) C d_M_condition_40 rfl rfl (by first | exact jrv_r | exact jrv_n | exact jrv_f) rfl ?_
            refine j_iload_n (i := 3) (t := 42) C d_M_condition_41 rfl rfl rfl ?_
            refine j_iload_n (i := 1) (t := 43) C d_M_condition_42 rfl rfl rfl ?_
            refine j_callV (As := [_, _]) (t := 46) C (c_M_truthOf _ o q (mp_pl m pi) s i e) d_M_condition_43 jb_M_truthOf ml_M_128 jv_M_truthOf hMi.1 rfl rfl rfl (Nat.le_of_ble_eq_true rfl) (by decide) (by omega) (by omega) (⟨⟨rfl, hMi, hR, hW⟩, hi, h5, (hrw i hi).1 h5, (hrw i hi).2⟩) rfl (fun r43 w43 p43 => ?_)
            obtain ⟨rfl, rfl⟩ := p43
            dsimp only [jst]
            refine j_st_pl (i := c) (t := 47) C d_M_condition_46 hMi (by rfl) (by omega) rfl (fun w46 M46 => ?_)
            refine j_iinc (y := _ + 1) (t := 50) (lv' := [(0, _), (1, _), (2, _), (3, _)]) C d_M_condition_47 rfl rfl (by decide) (by decide) rfl rfl ?_
            rw [nI_1]
            refine j_goto (tgt := 151) C d_M_condition_50 (by decide) ?_
            refine j_iinc (y := _ + 1) (t := 154) (lv' := [(0, _), (1, _), (2, _), (3, _)]) C d_M_condition_151 rfl rfl (by decide) (by decide) rfl rfl ?_
            refine j_goto (tgt := 4) C d_M_condition_154 (by decide) ?_
            rw [nI_1, show c + 1 = c + 1 - tkN (g_sk s i) by omega]
            exact ih (i + 1) _ w46 _ (by omega) (by omega) hwk (stk_0 hw hfi ht) M46
        · by_cases h6 : g_sk s i = 5
          · have ht := tk_b h6
            obtain ⟨a, ha8, ea⟩ := hs8 (c - 1) (by omega)
            have hpa := (hfi (c - 1) (by omega)).trans ea
            refine j_iload_n (i := 3) (t := 5) C d_M_condition_4 rfl rfl rfl ?_
            refine j_aload_n (i := 0) (t := 6) C d_M_condition_5 rfl rfl (by first | exact jrv_r | exact jrv_n | exact jrv_f) rfl ?_
            refine j_get (t := 9) C fl_M_109 d_M_condition_6 hMi.1 rfl rfl ?_
            rw [show mg_sn (mp_pl m pi) = nI (g_sn s) from r_sn]
            refine j_icmp_ge (tgt := 157) (t := 12) C d_M_condition_9 (by decide) rfl (fun h9 => absurd h9 (fun z => absurd ((nI_leI (by omega) (by omega)).mp z) (by omega))) (fun h9 => ?_)
            refine j_aload_n (i := 0) (t := 13) C d_M_condition_12 rfl rfl (by first | exact jrv_r | exact jrv_n | exact jrv_f) rfl ?_
            refine j_get (t := 16) C fl_M_58 d_M_condition_13 hMi.1 rfl rfl ?_
            refine j_iload_n (i := 3) (t := 17) C d_M_condition_16 rfl rfl rfl ?_
            refine j_ld_kd (i := i) (t := 18) C d_M_condition_17 hMi (by first | rfl | simp only [nI_add, nI_mul, nI_1]) (by omega) (hkd) rfl ?_
            refine j_iconst (x := 5) (t := 19) C d_M_condition_18 rfl rfl ?_
            refine j_icmp_ge (tgt := 53) (t := 22) C d_M_condition_19 (by decide) rfl (fun h19 => ?_) (fun h19 => absurd h19 (not_not_intro (Int32.not_lt.mp h5)))
            refine j_aload_n (i := 0) (t := 54) C d_M_condition_53 rfl rfl (by first | exact jrv_r | exact jrv_n | exact jrv_f) rfl ?_
            refine j_get (t := 57) C fl_M_58 d_M_condition_54 hMi.1 rfl rfl ?_
            refine j_iload_n (i := 3) (t := 58) C d_M_condition_57 rfl rfl rfl ?_
            refine j_ld_kd (i := i) (t := 59) C d_M_condition_58 hMi (by first | rfl | simp only [nI_add, nI_mul, nI_1]) (by omega) (hkd) rfl ?_
            refine j_iconst (x := 5) (t := 60) C d_M_condition_59 rfl rfl ?_
            refine j_icmp_ne (tgt := 85) (t := 63) C d_M_condition_60 (by decide) rfl (fun h60 => absurd h60 (not_not_intro h6)) (fun h60 => ?_)
            refine j_aload_n (i := 0) (t := 64) C d_M_condition_63 rfl rfl (by first | exact jrv_r | exact jrv_n | exact jrv_f) rfl ?_
            refine j_get (t := 67) C fl_M_76 d_M_condition_64 hMi.1 rfl rfl ?_
            refine j_iload_n (i := 2) (t := 68) C d_M_condition_67 rfl rfl rfl ?_
            refine j_iconst (x := 1) (t := 69) C d_M_condition_68 rfl rfl ?_
            refine j_isub (t := 70) C d_M_condition_69 rfl ?_
            refine j_aload_n (i := 0) (t := 71) C d_M_condition_70 rfl rfl (by first | exact jrv_r | exact jrv_n | exact jrv_f) rfl ?_
            refine j_get (t := 74) C fl_M_76 d_M_condition_71 hMi.1 rfl rfl ?_
            refine j_iload_n (i := 2) (t := 75) C d_M_condition_74 rfl rfl rfl ?_
            refine j_iconst (x := 1) (t := 76) C d_M_condition_75 rfl rfl ?_
            refine j_isub (t := 77) C d_M_condition_76 rfl ?_
            refine j_ld_pl (i := c - 1) (t := 78) C d_M_condition_77 hMi (by exact nI_dn1 (by omega)) (by omega) (hpa) rfl ?_
            refine j_callS (As := [_]) (t := 81) C (c_M_turned _ a) d_M_condition_78 jb_M_turned ml_M_132 st_M_turned rfl (Nat.le_of_ble_eq_true rfl) (by decide) (by omega) (by omega) (⟨rfl, ha8⟩) rfl (fun r78 w78 p78 => ?_)
            obtain ⟨rfl, rfl⟩ := p78
            dsimp only [jst]
            refine j_st_pl (i := c - 1) (t := 82) C d_M_condition_81 hMi (by exact nI_dn1 (by omega)) (by omega) rfl (fun w81 M81 => ?_)
            refine j_goto (tgt := 151) C d_M_condition_82 (by decide) ?_
            refine j_iinc (y := _ + 1) (t := 154) (lv' := [(0, _), (1, _), (2, _), (3, _)]) C d_M_condition_151 rfl rfl (by decide) (by decide) rfl rfl ?_
            refine j_goto (tgt := 4) C d_M_condition_154 (by decide) ?_
            have hst := stk_1 hw hfi ht (by omega)
            rw [hpa] at hst
            rw [nI_1]
            refine j_lv (lv' := [(0, .ref o), (1, .int row), (2, .int (nI (c + 1 - tkN (g_sk s i)))), (3, .int (nI (i + 1)))]) (by rw [show c + 1 - tkN (g_sk s i) = c by omega]) rfl ?_
            exact ih (i + 1) _ w81 _ (by omega) (by omega) hwk hst M81
          · have ht := tk_c h5 h6
            obtain ⟨a, ha8, ea⟩ := hs8 (c - 2) (by omega)
            have hpa := (hfi (c - 2) (by omega)).trans ea
            obtain ⟨b, hb8, eb⟩ := hs8 (c - 1) (by omega)
            have hpb := (hfi (c - 1) (by omega)).trans eb
            refine j_iload_n (i := 3) (t := 5) C d_M_condition_4 rfl rfl rfl ?_
            refine j_aload_n (i := 0) (t := 6) C d_M_condition_5 rfl rfl (by first | exact jrv_r | exact jrv_n | exact jrv_f) rfl ?_
            refine j_get (t := 9) C fl_M_109 d_M_condition_6 hMi.1 rfl rfl ?_
            rw [show mg_sn (mp_pl m pi) = nI (g_sn s) from r_sn]
            refine j_icmp_ge (tgt := 157) (t := 12) C d_M_condition_9 (by decide) rfl (fun h9 => absurd h9 (fun z => absurd ((nI_leI (by omega) (by omega)).mp z) (by omega))) (fun h9 => ?_)
            refine j_aload_n (i := 0) (t := 13) C d_M_condition_12 rfl rfl (by first | exact jrv_r | exact jrv_n | exact jrv_f) rfl ?_
            refine j_get (t := 16) C fl_M_58 d_M_condition_13 hMi.1 rfl rfl ?_
            refine j_iload_n (i := 3) (t := 17) C d_M_condition_16 rfl rfl rfl ?_
            refine j_ld_kd (i := i) (t := 18) C d_M_condition_17 hMi (by first | rfl | simp only [nI_add, nI_mul, nI_1]) (by omega) (hkd) rfl ?_
            refine j_iconst (x := 5) (t := 19) C d_M_condition_18 rfl rfl ?_
            refine j_icmp_ge (tgt := 53) (t := 22) C d_M_condition_19 (by decide) rfl (fun h19 => ?_) (fun h19 => absurd h19 (not_not_intro (Int32.not_lt.mp h5)))
            refine j_aload_n (i := 0) (t := 54) C d_M_condition_53 rfl rfl (by first | exact jrv_r | exact jrv_n | exact jrv_f) rfl ?_
            refine j_get (t := 57) C fl_M_58 d_M_condition_54 hMi.1 rfl rfl ?_
            refine j_iload_n (i := 3) (t := 58) C d_M_condition_57 rfl rfl rfl ?_
            refine j_ld_kd (i := i) (t := 59) C d_M_condition_58 hMi (by first | rfl | simp only [nI_add, nI_mul, nI_1]) (by omega) (hkd) rfl ?_
            refine j_iconst (x := 5) (t := 60) C d_M_condition_59 rfl rfl ?_
            refine j_icmp_ne (tgt := 85) (t := 63) C d_M_condition_60 (by decide) rfl (fun h60 => ?_) (fun h60 => absurd h60 (h6))
            refine j_iinc (y := _ + (-1)) (t := 88) (lv' := [(0, _), (1, _), (2, _), (3, _)]) C d_M_condition_85 rfl rfl (by decide) (by decide) rfl rfl ?_
            rw [nI_dn (by omega)]
            refine j_aload_n (i := 0) (t := 89) C d_M_condition_88 rfl rfl (by first | exact jrv_r | exact jrv_n | exact jrv_f) rfl ?_
            refine j_get (t := 92) C fl_M_76 d_M_condition_89 hMi.1 rfl rfl ?_
            refine j_iload_n (i := 2) (t := 93) C d_M_condition_92 rfl rfl rfl ?_
            refine j_iconst (x := 1) (t := 94) C d_M_condition_93 rfl rfl ?_
            refine j_isub (t := 95) C d_M_condition_94 rfl ?_
            refine j_ld_pl (i := c - 2) (t := 96) C d_M_condition_95 hMi (by rw [nI_dn1 (by omega), show c - 1 - 1 = c - 2 by omega]) (by omega) (hpa) rfl ?_
            refine j_istore (i := 4) (t := 98) (lv' := [(0, _), (1, _), (2, _), (3, _), (4, _)]) C d_M_condition_96 (by decide) (by decide) rfl rfl ?_
            refine j_aload_n (i := 0) (t := 99) C d_M_condition_98 rfl rfl (by first | exact jrv_r | exact jrv_n | exact jrv_f) rfl ?_
            refine j_get (t := 102) C fl_M_76 d_M_condition_99 hMi.1 rfl rfl ?_
            refine j_iload_n (i := 2) (t := 103) C d_M_condition_102 rfl rfl rfl ?_
            refine j_ld_pl (i := c - 1) (t := 104) C d_M_condition_103 hMi (by rfl) (by omega) (hpb) rfl ?_
            refine j_istore (i := 5) (t := 106) (lv' := [(0, _), (1, _), (2, _), (3, _), (4, _), (5, _)]) C d_M_condition_104 (by decide) (by decide) rfl rfl ?_
            refine j_aload_n (i := 0) (t := 107) C d_M_condition_106 rfl rfl (by first | exact jrv_r | exact jrv_n | exact jrv_f) rfl ?_
            refine j_get (t := 110) C fl_M_76 d_M_condition_107 hMi.1 rfl rfl ?_
            refine j_iload_n (i := 2) (t := 111) C d_M_condition_110 rfl rfl rfl ?_
            refine j_iconst (x := 1) (t := 112) C d_M_condition_111 rfl rfl ?_
            refine j_isub (t := 113) C d_M_condition_112 rfl ?_
            refine j_aload_n (i := 0) (t := 114) C d_M_condition_113 rfl rfl (by first | exact jrv_r | exact jrv_n | exact jrv_f) rfl ?_
            refine j_get (t := 117) C fl_M_58 d_M_condition_114 hMi.1 rfl rfl ?_
            refine j_iload_n (i := 3) (t := 118) C d_M_condition_117 rfl rfl rfl ?_
            refine j_ld_kd (i := i) (t := 119) C d_M_condition_118 hMi (by first | rfl | simp only [nI_add, nI_mul, nI_1]) (by omega) (hkd) rfl ?_
            refine j_bipush (x := nI 6) (t := 121) C d_M_condition_119 rfl rfl ?_
            refine j_icmp_ne (tgt := 134) (t := 124) C d_M_condition_121 (by decide) rfl (fun h121 => ?_) (fun h121 => ?_)
            · refine j_iload (t := 136) C d_M_condition_134 rfl rfl ?_
              refine j_callS (As := [_]) (t := 139) C (c_M_turned _ a) d_M_condition_136 jb_M_turned ml_M_132 st_M_turned rfl (Nat.le_of_ble_eq_true rfl) (by decide) (by omega) (by omega) (⟨rfl, ha8⟩) rfl (fun r136 w136 p136 => ?_)
              obtain ⟨rfl, rfl⟩ := p136
              dsimp only [jst]
              obtain ⟨a2, ha2, ea2⟩ := nS_8 a ha8
              rw [ea2]
              refine j_iload (t := 141) C d_M_condition_139 rfl rfl ?_
              refine j_callS (As := [_]) (t := 144) C (c_M_turned _ b) d_M_condition_141 jb_M_turned ml_M_132 st_M_turned rfl (Nat.le_of_ble_eq_true rfl) (by decide) (by omega) (by omega) (⟨rfl, hb8⟩) rfl (fun r141 w141 p141 => ?_)
              obtain ⟨rfl, rfl⟩ := p141
              dsimp only [jst]
              obtain ⟨b2, hb2, eb2⟩ := nS_8 b hb8
              rw [eb2]
              refine j_callS (As := [_, _]) (t := 147) C (c_M_joined _ a2 b2) d_M_condition_144 jb_M_joined ml_M_135 st_M_joined rfl (Nat.le_of_ble_eq_true rfl) (by decide) (by omega) (by omega) (⟨rfl, ha2, hb2⟩) rfl (fun r144 w144 p144 => ?_)
              obtain ⟨rfl, rfl⟩ := p144
              dsimp only [jst]
              obtain ⟨c2, hc2, ec2⟩ := aS_8 a2 ha2 b2 hb2
              rw [ec2]
              refine j_callS (As := [_]) (t := 150) C (c_M_turned _ c2) d_M_condition_147 jb_M_turned ml_M_132 st_M_turned rfl (Nat.le_of_ble_eq_true rfl) (by decide) (by omega) (by omega) (⟨rfl, hc2⟩) rfl (fun r147 w147 p147 => ?_)
              obtain ⟨rfl, rfl⟩ := p147
              dsimp only [jst]
              rw [← ec2, ← ea2, ← eb2, oS_fl a ha8 b hb8]
              refine j_st_pl (i := c - 2) (t := 151) C d_M_condition_150 hMi (by rw [nI_dn1 (by omega), show c - 1 - 1 = c - 2 by omega]) (by omega) rfl (fun w150 M150 => ?_)
              refine j_iinc (y := _ + 1) (t := 154) (lv' := [(0, _), (1, _), (2, _), (3, _), (4, _), (5, _)]) C d_M_condition_151 rfl rfl (by decide) (by decide) rfl rfl ?_
              refine j_goto (tgt := 4) C d_M_condition_154 (by decide) ?_
              refine j_pick [0, 1, 2, 3] rfl ?_
              rw [nI_1, show c - 1 = c + 1 - tkN (g_sk s i) by omega]
              first
              | (have hst := stk_a hw hfi ht h121 (by omega); rw [hpa, hpb] at hst; exact ih (i + 1) _ w150 _ (by omega) (by omega) hwk hst M150)
              | (have hst := stk_o hw hfi ht h121 (by omega); rw [hpa, hpb] at hst; exact ih (i + 1) _ w150 _ (by omega) (by omega) hwk hst M150)
            · refine j_iload (t := 126) C d_M_condition_124 rfl rfl ?_
              refine j_iload (t := 128) C d_M_condition_126 rfl rfl ?_
              refine j_callS (As := [_, _]) (t := 131) C (c_M_joined _ a b) d_M_condition_128 jb_M_joined ml_M_135 st_M_joined rfl (Nat.le_of_ble_eq_true rfl) (by decide) (by omega) (by omega) (⟨rfl, ha8, hb8⟩) rfl (fun r128 w128 p128 => ?_)
              obtain ⟨rfl, rfl⟩ := p128
              dsimp only [jst]
              refine j_goto (tgt := 150) C d_M_condition_131 (by decide) ?_
              refine j_st_pl (i := c - 2) (t := 151) C d_M_condition_150 hMi (by rw [nI_dn1 (by omega), show c - 1 - 1 = c - 2 by omega]) (by omega) rfl (fun w150 M150 => ?_)
              refine j_iinc (y := _ + 1) (t := 154) (lv' := [(0, _), (1, _), (2, _), (3, _), (4, _), (5, _)]) C d_M_condition_151 rfl rfl (by decide) (by decide) rfl rfl ?_
              refine j_goto (tgt := 4) C d_M_condition_154 (by decide) ?_
              refine j_pick [0, 1, 2, 3] rfl ?_
              rw [nI_1, show c - 1 = c + 1 - tkN (g_sk s i) by omega]
              first
              | (have hst := stk_a hw hfi ht h121 (by omega); rw [hpa, hpb] at hst; exact ih (i + 1) _ w150 _ (by omega) (by omega) hwk hst M150)
              | (have hst := stk_o hw hfi ht h121 (by omega); rw [hpa, hpb] at hst; exact ih (i + 1) _ w150 _ (by omega) (by omega) hwk hst M150)
      · have hie : i = g_sn s := by omega
        refine j_iload_n (i := 3) (t := 5) C d_M_condition_4 rfl rfl rfl ?_
        refine j_aload_n (i := 0) (t := 6) C d_M_condition_5 rfl rfl (by first | exact jrv_r | exact jrv_n | exact jrv_f) rfl ?_
        refine j_get (t := 9) C fl_M_109 d_M_condition_6 hMi.1 rfl rfl ?_
        rw [show mg_sn (mp_pl m pi) = nI (g_sn s) from r_sn]
        refine j_icmp_ge (tgt := 157) (t := 12) C d_M_condition_9 (by decide) rfl (fun h9 => ?_) (fun h9 => absurd h9 (not_not_intro (nI_le (by omega) (by omega))))
        refine j_aload_n (i := 0) (t := 158) C d_M_condition_157 rfl rfl (by first | exact jrv_r | exact jrv_n | exact jrv_f) rfl ?_
        refine j_get (t := 161) C fl_M_109 d_M_condition_158 hMi.1 rfl rfl ?_
        rw [show mg_sn (mp_pl m pi) = nI (g_sn s) from r_sn]
        refine j_if_ne (tgt := 168) (t := 164) C d_M_condition_161 (by decide) rfl (fun h161 => ?_) (fun h161 => ?_)
        · refine j_aload_n (i := 0) (t := 169) C d_M_condition_168 rfl rfl (by first | exact jrv_r | exact jrv_n | exact jrv_f) rfl ?_
          refine j_get (t := 172) C fl_M_76 d_M_condition_169 hMi.1 rfl rfl ?_
          refine j_iconst (x := 0) (t := 173) C d_M_condition_172 rfl rfl ?_
          refine j_ld_pl (i := 0) (t := 174) C d_M_condition_173 hMi (by rfl) (by omega) rfl rfl ?_
          exact j_iret C d_M_condition_174 (by first | rfl | exact nar_b) (⟨by
          have h0 : nI (g_sn s) = 0 ↔ g_sn s = 0 := nI_eq (b := 0) (by omega) (by omega)
          first
          | (unfold outc; rw [if_pos (h0.mp h161)])
          | (have z : ¬ g_sn s = 0 := fun z => h161 (h0.mpr z)
             have hwn : wN (g_sk s) (g_sn s) = some 1 := by
               simp [isCnd, z] at hcn
               exact hcn
             rw [hie, hwn] at hw
             cases hw
             unfold outc
             rw [if_neg z, ← hie, ← hfi 0 (by omega)]), pi, hMi⟩) (by omega) (by omega)
        · refine j_iconst (x := 2) (t := 165) C d_M_condition_164 rfl rfl ?_
          refine j_goto (tgt := 174) C d_M_condition_165 (by decide) ?_
          exact j_iret C d_M_condition_174 (by first | rfl | exact nar_b) (⟨by
          have h0 : nI (g_sn s) = 0 ↔ g_sn s = 0 := nI_eq (b := 0) (by omega) (by omega)
          first
          | (unfold outc; rw [if_pos (h0.mp h161)])
          | (have z : ¬ g_sn s = 0 := fun z => h161 (h0.mpr z)
             have hwn : wN (g_sk s) (g_sn s) = some 1 := by
               simp [isCnd, z] at hcn
               exact hcn
             rw [hie, hwn] at hw
             cases hw
             unfold outc
             rw [if_neg z, ← hie, ← hfi 0 (by omega)]), pi, hMi⟩) (by omega) (by omega)
  refine j_iconst (x := 0) (t := 1) C d_M_condition_0 rfl rfl ?_
  refine j_istore_n (i := 2) (t := 2) (lv' := [(0, _), (1, _), (2, _)]) C d_M_condition_1 rfl (by decide) (by decide) rfl rfl ?_
  refine j_iconst (x := 0) (t := 3) C d_M_condition_2 rfl rfl ?_
  refine j_istore_n (i := 3) (t := 4) (lv' := [(0, _), (1, _), (2, _), (3, _)]) C d_M_condition_3 rfl (by decide) (by decide) rfl rfl ?_
  exact loop (g_sn s + 1) 0 0 w (mg_pl m) (by omega) (Nat.zero_le _) rfl (fun j hj => absurd hj (Nat.not_lt_zero _)) hM
