set_option maxHeartbeats 4000000 in
set_option maxRecDepth 100000 in
/-- canOf -/
theorem c_M_canOf (l : Launch) (o : Nat) (q : Nat → Nat) (m : jM) (s : jS) (k : Nat) : MC l y_M_canOf b_M_canOf 9 (some .int) 3 0 0
    (fun G w av => (av = [.ref o, .int (nI k)] ∧ MH G w o q m ∧ relM s m ∧ WF s) ∧ k < g_sn s ∧ g_sk s k < 5)
    (fun G w av r w' => w' = w ∧ r = some (.int (cAt s k))) := by
  refine MC.of 99 (by decide) ?_
  intro X w av hl C hnm hp
  obtain ⟨hp, hk, hk5⟩ := hp
  obtain ⟨rfl, hM, hR, hW⟩ := hp
  obtain ⟨⟨r_tn, r_tp⟩, ⟨r_cc, r_ln, r_sn, r_zn⟩, r_col, r_new, r_sz, r_lit, r_st, r_zt⟩ := id hR
  obtain ⟨wtn, wtp, wcc, wln, wsn, wzn, wcol, wlit, wst, wzt⟩ := id hW
  have hsc := (wst k hk).2.1 hk5
  have hk0 : ¬ g_sk s k < 0 := Int32.not_lt.mpr (wst k hk).1.1
  have hknM := (r_col _ hsc).2.2.2.2.1
  refine ⟨[(0, _), (1, _)], rfl, Nat.le_of_ble_eq_true rfl, rfl, ?_⟩
  rcases kd_5 hk0 hk5 with hK | hK | hK | hK | hK
  · cases hkn : g_kn s (g_sc s k) with
    | false =>
      rw [hkn] at hknM
      refine j_aload_n (i := 0) (t := 1) C d_M_canOf_0 rfl rfl (by first | exact jrv_r | exact jrv_n | exact jrv_f) rfl ?_
      refine j_get (t := 4) C fl_M_61 d_M_canOf_1 hM.1 rfl rfl ?_
      refine j_iload_n (i := 1) (t := 5) C d_M_canOf_4 rfl rfl rfl ?_
      refine j_ld_fi (i := k) (t := 6) C d_M_canOf_5 hM (by first | rfl | simp only [nI_add, nI_mul, nI_1]) (by omega) ((r_st k hk).2.1 hk5) rfl ?_
      refine j_istore_n (i := 2) (t := 7) (lv' := [(0, _), (1, _), (2, _)]) C d_M_canOf_6 rfl (by decide) (by decide) rfl rfl ?_
      refine j_aload_n (i := 0) (t := 8) C d_M_canOf_7 rfl rfl (by first | exact jrv_r | exact jrv_n | exact jrv_f) rfl ?_
      refine j_get (t := 11) C fl_M_58 d_M_canOf_8 hM.1 rfl rfl ?_
      refine j_iload_n (i := 1) (t := 12) C d_M_canOf_11 rfl rfl rfl ?_
      refine j_ld_kd (i := k) (t := 13) C d_M_canOf_12 hM (by first | rfl | simp only [nI_add, nI_mul, nI_1]) (by omega) ((r_st k hk).1.trans hK) rfl ?_
      refine j_iconst (x := 4) (t := 14) C d_M_canOf_13 rfl rfl ?_
      refine j_icmp_ne (tgt := 26) (t := 17) C d_M_canOf_14 (by decide) rfl (fun h14 => ?_) (fun h14 => absurd h14 (by decide))
      refine j_iload_n (i := 2) (t := 27) C d_M_canOf_26 rfl rfl rfl ?_
      refine j_istore_n (i := 3) (t := 28) (lv' := [(0, _), (1, _), (2, _), (3, _)]) C d_M_canOf_27 rfl (by decide) (by decide) rfl rfl ?_
      refine j_aload_n (i := 0) (t := 29) C d_M_canOf_28 rfl rfl (by first | exact jrv_r | exact jrv_n | exact jrv_f) rfl ?_
      refine j_get (t := 32) C fl_M_45 d_M_canOf_29 hM.1 rfl rfl ?_
      refine j_iload_n (i := 2) (t := 33) C d_M_canOf_32 rfl rfl rfl ?_
      refine j_ld_kn (i := g_sc s k) (t := 34) C d_M_canOf_33 hM (by first | rfl | simp only [nI_add, nI_mul, nI_1]) (by omega) (hknM) rfl ?_
      refine j_if_eq (tgt := 46) (t := 37) C d_M_canOf_34 (by decide) rfl (fun h34 => ?_) (fun h34 => absurd h34 (fun z => z rfl))
      refine j_aload_n (i := 0) (t := 47) C d_M_canOf_46 rfl rfl (by first | exact jrv_r | exact jrv_n | exact jrv_f) rfl ?_
      refine j_get (t := 50) C fl_M_58 d_M_canOf_47 hM.1 rfl rfl ?_
      refine j_iload_n (i := 1) (t := 51) C d_M_canOf_50 rfl rfl rfl ?_
      refine j_ld_kd (i := k) (t := 52) C d_M_canOf_51 hM (by first | rfl | simp only [nI_add, nI_mul, nI_1]) (by omega) ((r_st k hk).1.trans hK) rfl ?_
      refine j_iconst (x := 2) (t := 53) C d_M_canOf_52 rfl rfl ?_
      refine j_icmp_ge (tgt := 60) (t := 56) C d_M_canOf_53 (by decide) rfl (fun h53 => absurd h53 (by decide)) (fun h53 => ?_)
      refine j_iconst (x := 3) (t := 57) C d_M_canOf_56 rfl rfl ?_
      refine j_goto (tgt := 62) C d_M_canOf_57 (by decide) ?_
      exact j_iret C d_M_canOf_62 (by first | rfl | exact nar_b) (⟨rfl, by rw [cAt_u0 (Or.inl hK) hkn]⟩) (by omega) (by omega)
    | true =>
      rw [hkn] at hknM
      have hknn := (r_col _ hsc).2.2.2.2.2 hkn
      have hkr := hknn.1
      have hkm := hknn.2.1
      obtain ⟨q1, q2, q3, q4, -⟩ := (wcol _ hsc).2.2.2.2 hkn
      by_cases hm : 0 < g_km s (g_sc s k)
      · by_cases hs : g_km s (g_sc s k) < g_kr s (g_sc s k)
        · refine j_aload_n (i := 0) (t := 1) C d_M_canOf_0 rfl rfl (by first | exact jrv_r | exact jrv_n | exact jrv_f) rfl ?_
          refine j_get (t := 4) C fl_M_61 d_M_canOf_1 hM.1 rfl rfl ?_
          refine j_iload_n (i := 1) (t := 5) C d_M_canOf_4 rfl rfl rfl ?_
          refine j_ld_fi (i := k) (t := 6) C d_M_canOf_5 hM (by first | rfl | simp only [nI_add, nI_mul, nI_1]) (by omega) ((r_st k hk).2.1 hk5) rfl ?_
          refine j_istore_n (i := 2) (t := 7) (lv' := [(0, _), (1, _), (2, _)]) C d_M_canOf_6 rfl (by decide) (by decide) rfl rfl ?_
          refine j_aload_n (i := 0) (t := 8) C d_M_canOf_7 rfl rfl (by first | exact jrv_r | exact jrv_n | exact jrv_f) rfl ?_
          refine j_get (t := 11) C fl_M_58 d_M_canOf_8 hM.1 rfl rfl ?_
          refine j_iload_n (i := 1) (t := 12) C d_M_canOf_11 rfl rfl rfl ?_
          refine j_ld_kd (i := k) (t := 13) C d_M_canOf_12 hM (by first | rfl | simp only [nI_add, nI_mul, nI_1]) (by omega) ((r_st k hk).1.trans hK) rfl ?_
          refine j_iconst (x := 4) (t := 14) C d_M_canOf_13 rfl rfl ?_
          refine j_icmp_ne (tgt := 26) (t := 17) C d_M_canOf_14 (by decide) rfl (fun h14 => ?_) (fun h14 => absurd h14 (by decide))
          refine j_iload_n (i := 2) (t := 27) C d_M_canOf_26 rfl rfl rfl ?_
          refine j_istore_n (i := 3) (t := 28) (lv' := [(0, _), (1, _), (2, _), (3, _)]) C d_M_canOf_27 rfl (by decide) (by decide) rfl rfl ?_
          refine j_aload_n (i := 0) (t := 29) C d_M_canOf_28 rfl rfl (by first | exact jrv_r | exact jrv_n | exact jrv_f) rfl ?_
          refine j_get (t := 32) C fl_M_45 d_M_canOf_29 hM.1 rfl rfl ?_
          refine j_iload_n (i := 2) (t := 33) C d_M_canOf_32 rfl rfl rfl ?_
          refine j_ld_kn (i := g_sc s k) (t := 34) C d_M_canOf_33 hM (by first | rfl | simp only [nI_add, nI_mul, nI_1]) (by omega) (hknM) rfl ?_
          refine j_if_eq (tgt := 46) (t := 37) C d_M_canOf_34 (by decide) rfl (fun h34 => absurd h34 (by decide)) (fun h34 => ?_)
          refine j_aload_n (i := 0) (t := 38) C d_M_canOf_37 rfl rfl (by first | exact jrv_r | exact jrv_n | exact jrv_f) rfl ?_
          refine j_get (t := 41) C fl_M_45 d_M_canOf_38 hM.1 rfl rfl ?_
          refine j_iload_n (i := 3) (t := 42) C d_M_canOf_41 rfl rfl rfl ?_
          refine j_ld_kn (i := g_sc s k) (t := 43) C d_M_canOf_42 hM (by first | rfl | simp only [nI_add, nI_mul, nI_1]) (by omega) (hknM) rfl ?_
          refine j_if_ne (tgt := 63) (t := 46) C d_M_canOf_43 (by decide) rfl (fun h43 => ?_) (fun h43 => absurd h43 (by decide))
          refine j_aload_n (i := 0) (t := 64) C d_M_canOf_63 rfl rfl (by first | exact jrv_r | exact jrv_n | exact jrv_f) rfl ?_
          refine j_get (t := 67) C fl_M_39 d_M_canOf_64 hM.1 rfl rfl ?_
          refine j_iload_n (i := 2) (t := 68) C d_M_canOf_67 rfl rfl rfl ?_
          refine j_ld_ms (i := g_sc s k) (t := 69) C d_M_canOf_68 hM (by first | rfl | simp only [nI_add, nI_mul, nI_1]) (by omega) (hkm) rfl ?_
          refine j_if_le (tgt := 76) (t := 72) C d_M_canOf_69 (by decide) rfl (fun h69 => absurd h69 (Int32.not_le.mpr hm)) (fun h69 => ?_)
          refine j_iconst (x := 1) (t := 73) C d_M_canOf_72 rfl rfl ?_
          refine j_goto (tgt := 77) C d_M_canOf_73 (by decide) ?_
          refine j_istore (i := 4) (t := 79) (lv' := [(0, _), (1, _), (2, _), (3, _), (4, _)]) C d_M_canOf_77 (by decide) (by decide) rfl rfl ?_
          refine j_aload_n (i := 0) (t := 80) C d_M_canOf_79 rfl rfl (by first | exact jrv_r | exact jrv_n | exact jrv_f) rfl ?_
          refine j_get (t := 83) C fl_M_36 d_M_canOf_80 hM.1 rfl rfl ?_
          refine j_iload_n (i := 2) (t := 84) C d_M_canOf_83 rfl rfl rfl ?_
          refine j_ld_rw (i := g_sc s k) (t := 85) C d_M_canOf_84 hM (by first | rfl | simp only [nI_add, nI_mul, nI_1]) (by omega) (hkr) rfl ?_
          refine j_aload_n (i := 0) (t := 86) C d_M_canOf_85 rfl rfl (by first | exact jrv_r | exact jrv_n | exact jrv_f) rfl ?_
          refine j_get (t := 89) C fl_M_39 d_M_canOf_86 hM.1 rfl rfl ?_
          refine j_iload_n (i := 2) (t := 90) C d_M_canOf_89 rfl rfl rfl ?_
          refine j_ld_ms (i := g_sc s k) (t := 91) C d_M_canOf_90 hM (by first | rfl | simp only [nI_add, nI_mul, nI_1]) (by omega) (hkm) rfl ?_
          refine j_icmp_le (tgt := 98) (t := 94) C d_M_canOf_91 (by decide) rfl (fun h91 => absurd h91 (Int32.not_le.mpr hs)) (fun h91 => ?_)
          refine j_iconst (x := 1) (t := 95) C d_M_canOf_94 rfl rfl ?_
          refine j_goto (tgt := 99) C d_M_canOf_95 (by decide) ?_
          refine j_istore (i := 5) (t := 101) (lv' := [(0, _), (1, _), (2, _), (3, _), (4, _), (5, _)]) C d_M_canOf_99 (by decide) (by decide) rfl rfl ?_
          refine j_aload_n (i := 0) (t := 102) C d_M_canOf_101 rfl rfl (by first | exact jrv_r | exact jrv_n | exact jrv_f) rfl ?_
          refine j_get (t := 105) C fl_M_58 d_M_canOf_102 hM.1 rfl rfl ?_
          refine j_iload_n (i := 1) (t := 106) C d_M_canOf_105 rfl rfl rfl ?_
          refine j_ld_kd (i := k) (t := 107) C d_M_canOf_106 hM (by first | rfl | simp only [nI_add, nI_mul, nI_1]) (by omega) ((r_st k hk).1.trans hK) rfl ?_
          refine j_iconst (x := 2) (t := 108) C d_M_canOf_107 rfl rfl ?_
          refine j_icmp_ge (tgt := 167) (t := 111) C d_M_canOf_108 (by decide) rfl (fun h108 => absurd h108 (by decide)) (fun h108 => ?_)
          refine j_aload_n (i := 0) (t := 112) C d_M_canOf_111 rfl rfl (by first | exact jrv_r | exact jrv_n | exact jrv_f) rfl ?_
          refine j_get (t := 115) C fl_M_58 d_M_canOf_112 hM.1 rfl rfl ?_
          refine j_iload_n (i := 1) (t := 116) C d_M_canOf_115 rfl rfl rfl ?_
          refine j_ld_kd (i := k) (t := 117) C d_M_canOf_116 hM (by first | rfl | simp only [nI_add, nI_mul, nI_1]) (by omega) ((r_st k hk).1.trans hK) rfl ?_
          refine j_if_ne (tgt := 128) (t := 120) C d_M_canOf_117 (by decide) rfl (fun h117 => absurd h117 (by decide)) (fun h117 => ?_)
          refine j_iload (t := 122) C d_M_canOf_120 rfl rfl ?_
          refine j_if_eq (tgt := 137) (t := 125) C d_M_canOf_122 (by decide) rfl (fun h122 => absurd h122 (by decide)) (fun h122 => ?_)
          refine j_goto (tgt := 133) C d_M_canOf_125 (by decide) ?_
          refine j_iconst (x := 2) (t := 134) C d_M_canOf_133 rfl rfl ?_
          refine j_goto (tgt := 138) C d_M_canOf_134 (by decide) ?_
          refine j_aload_n (i := 0) (t := 139) C d_M_canOf_138 rfl rfl (by first | exact jrv_r | exact jrv_n | exact jrv_f) rfl ?_
          refine j_get (t := 142) C fl_M_58 d_M_canOf_139 hM.1 rfl rfl ?_
          refine j_iload_n (i := 1) (t := 143) C d_M_canOf_142 rfl rfl rfl ?_
          refine j_ld_kd (i := k) (t := 144) C d_M_canOf_143 hM (by first | rfl | simp only [nI_add, nI_mul, nI_1]) (by omega) ((r_st k hk).1.trans hK) rfl ?_
          refine j_if_ne (tgt := 155) (t := 147) C d_M_canOf_144 (by decide) rfl (fun h144 => absurd h144 (by decide)) (fun h144 => ?_)
          refine j_iload (t := 149) C d_M_canOf_147 rfl rfl ?_
          refine j_if_eq (tgt := 164) (t := 152) C d_M_canOf_149 (by decide) rfl (fun h149 => absurd h149 (by decide)) (fun h149 => ?_)
          refine j_goto (tgt := 160) C d_M_canOf_152 (by decide) ?_
          refine j_iconst (x := 1) (t := 161) C d_M_canOf_160 rfl rfl ?_
          refine j_goto (tgt := 165) C d_M_canOf_161 (by decide) ?_
          refine j_iadd (t := 166) C d_M_canOf_165 rfl ?_
          exact j_iret C d_M_canOf_166 (by first | rfl | exact nar_b) (⟨rfl, by rw [cAt_0 hK hkn, decide_eq_true hs, decide_eq_true hm]; decide⟩) (by omega) (by omega)
        · refine j_aload_n (i := 0) (t := 1) C d_M_canOf_0 rfl rfl (by first | exact jrv_r | exact jrv_n | exact jrv_f) rfl ?_
          refine j_get (t := 4) C fl_M_61 d_M_canOf_1 hM.1 rfl rfl ?_
          refine j_iload_n (i := 1) (t := 5) C d_M_canOf_4 rfl rfl rfl ?_
          refine j_ld_fi (i := k) (t := 6) C d_M_canOf_5 hM (by first | rfl | simp only [nI_add, nI_mul, nI_1]) (by omega) ((r_st k hk).2.1 hk5) rfl ?_
          refine j_istore_n (i := 2) (t := 7) (lv' := [(0, _), (1, _), (2, _)]) C d_M_canOf_6 rfl (by decide) (by decide) rfl rfl ?_
          refine j_aload_n (i := 0) (t := 8) C d_M_canOf_7 rfl rfl (by first | exact jrv_r | exact jrv_n | exact jrv_f) rfl ?_
          refine j_get (t := 11) C fl_M_58 d_M_canOf_8 hM.1 rfl rfl ?_
          refine j_iload_n (i := 1) (t := 12) C d_M_canOf_11 rfl rfl rfl ?_
          refine j_ld_kd (i := k) (t := 13) C d_M_canOf_12 hM (by first | rfl | simp only [nI_add, nI_mul, nI_1]) (by omega) ((r_st k hk).1.trans hK) rfl ?_
          refine j_iconst (x := 4) (t := 14) C d_M_canOf_13 rfl rfl ?_
          refine j_icmp_ne (tgt := 26) (t := 17) C d_M_canOf_14 (by decide) rfl (fun h14 => ?_) (fun h14 => absurd h14 (by decide))
          refine j_iload_n (i := 2) (t := 27) C d_M_canOf_26 rfl rfl rfl ?_
          refine j_istore_n (i := 3) (t := 28) (lv' := [(0, _), (1, _), (2, _), (3, _)]) C d_M_canOf_27 rfl (by decide) (by decide) rfl rfl ?_
          refine j_aload_n (i := 0) (t := 29) C d_M_canOf_28 rfl rfl (by first | exact jrv_r | exact jrv_n | exact jrv_f) rfl ?_
          refine j_get (t := 32) C fl_M_45 d_M_canOf_29 hM.1 rfl rfl ?_
          refine j_iload_n (i := 2) (t := 33) C d_M_canOf_32 rfl rfl rfl ?_
          refine j_ld_kn (i := g_sc s k) (t := 34) C d_M_canOf_33 hM (by first | rfl | simp only [nI_add, nI_mul, nI_1]) (by omega) (hknM) rfl ?_
          refine j_if_eq (tgt := 46) (t := 37) C d_M_canOf_34 (by decide) rfl (fun h34 => absurd h34 (by decide)) (fun h34 => ?_)
          refine j_aload_n (i := 0) (t := 38) C d_M_canOf_37 rfl rfl (by first | exact jrv_r | exact jrv_n | exact jrv_f) rfl ?_
          refine j_get (t := 41) C fl_M_45 d_M_canOf_38 hM.1 rfl rfl ?_
          refine j_iload_n (i := 3) (t := 42) C d_M_canOf_41 rfl rfl rfl ?_
          refine j_ld_kn (i := g_sc s k) (t := 43) C d_M_canOf_42 hM (by first | rfl | simp only [nI_add, nI_mul, nI_1]) (by omega) (hknM) rfl ?_
          refine j_if_ne (tgt := 63) (t := 46) C d_M_canOf_43 (by decide) rfl (fun h43 => ?_) (fun h43 => absurd h43 (by decide))
          refine j_aload_n (i := 0) (t := 64) C d_M_canOf_63 rfl rfl (by first | exact jrv_r | exact jrv_n | exact jrv_f) rfl ?_
          refine j_get (t := 67) C fl_M_39 d_M_canOf_64 hM.1 rfl rfl ?_
          refine j_iload_n (i := 2) (t := 68) C d_M_canOf_67 rfl rfl rfl ?_
          refine j_ld_ms (i := g_sc s k) (t := 69) C d_M_canOf_68 hM (by first | rfl | simp only [nI_add, nI_mul, nI_1]) (by omega) (hkm) rfl ?_
          refine j_if_le (tgt := 76) (t := 72) C d_M_canOf_69 (by decide) rfl (fun h69 => absurd h69 (Int32.not_le.mpr hm)) (fun h69 => ?_)
          refine j_iconst (x := 1) (t := 73) C d_M_canOf_72 rfl rfl ?_
          refine j_goto (tgt := 77) C d_M_canOf_73 (by decide) ?_
          refine j_istore (i := 4) (t := 79) (lv' := [(0, _), (1, _), (2, _), (3, _), (4, _)]) C d_M_canOf_77 (by decide) (by decide) rfl rfl ?_
          refine j_aload_n (i := 0) (t := 80) C d_M_canOf_79 rfl rfl (by first | exact jrv_r | exact jrv_n | exact jrv_f) rfl ?_
          refine j_get (t := 83) C fl_M_36 d_M_canOf_80 hM.1 rfl rfl ?_
          refine j_iload_n (i := 2) (t := 84) C d_M_canOf_83 rfl rfl rfl ?_
          refine j_ld_rw (i := g_sc s k) (t := 85) C d_M_canOf_84 hM (by first | rfl | simp only [nI_add, nI_mul, nI_1]) (by omega) (hkr) rfl ?_
          refine j_aload_n (i := 0) (t := 86) C d_M_canOf_85 rfl rfl (by first | exact jrv_r | exact jrv_n | exact jrv_f) rfl ?_
          refine j_get (t := 89) C fl_M_39 d_M_canOf_86 hM.1 rfl rfl ?_
          refine j_iload_n (i := 2) (t := 90) C d_M_canOf_89 rfl rfl rfl ?_
          refine j_ld_ms (i := g_sc s k) (t := 91) C d_M_canOf_90 hM (by first | rfl | simp only [nI_add, nI_mul, nI_1]) (by omega) (hkm) rfl ?_
          refine j_icmp_le (tgt := 98) (t := 94) C d_M_canOf_91 (by decide) rfl (fun h91 => ?_) (fun h91 => absurd h91 (fun z => z (Int32.not_lt.mp hs)))
          refine j_iconst (x := 0) (t := 99) C d_M_canOf_98 rfl rfl ?_
          refine j_istore (i := 5) (t := 101) (lv' := [(0, _), (1, _), (2, _), (3, _), (4, _), (5, _)]) C d_M_canOf_99 (by decide) (by decide) rfl rfl ?_
          refine j_aload_n (i := 0) (t := 102) C d_M_canOf_101 rfl rfl (by first | exact jrv_r | exact jrv_n | exact jrv_f) rfl ?_
          refine j_get (t := 105) C fl_M_58 d_M_canOf_102 hM.1 rfl rfl ?_
          refine j_iload_n (i := 1) (t := 106) C d_M_canOf_105 rfl rfl rfl ?_
          refine j_ld_kd (i := k) (t := 107) C d_M_canOf_106 hM (by first | rfl | simp only [nI_add, nI_mul, nI_1]) (by omega) ((r_st k hk).1.trans hK) rfl ?_
          refine j_iconst (x := 2) (t := 108) C d_M_canOf_107 rfl rfl ?_
          refine j_icmp_ge (tgt := 167) (t := 111) C d_M_canOf_108 (by decide) rfl (fun h108 => absurd h108 (by decide)) (fun h108 => ?_)
          refine j_aload_n (i := 0) (t := 112) C d_M_canOf_111 rfl rfl (by first | exact jrv_r | exact jrv_n | exact jrv_f) rfl ?_
          refine j_get (t := 115) C fl_M_58 d_M_canOf_112 hM.1 rfl rfl ?_
          refine j_iload_n (i := 1) (t := 116) C d_M_canOf_115 rfl rfl rfl ?_
          refine j_ld_kd (i := k) (t := 117) C d_M_canOf_116 hM (by first | rfl | simp only [nI_add, nI_mul, nI_1]) (by omega) ((r_st k hk).1.trans hK) rfl ?_
          refine j_if_ne (tgt := 128) (t := 120) C d_M_canOf_117 (by decide) rfl (fun h117 => absurd h117 (by decide)) (fun h117 => ?_)
          refine j_iload (t := 122) C d_M_canOf_120 rfl rfl ?_
          refine j_if_eq (tgt := 137) (t := 125) C d_M_canOf_122 (by decide) rfl (fun h122 => absurd h122 (by decide)) (fun h122 => ?_)
          refine j_goto (tgt := 133) C d_M_canOf_125 (by decide) ?_
          refine j_iconst (x := 2) (t := 134) C d_M_canOf_133 rfl rfl ?_
          refine j_goto (tgt := 138) C d_M_canOf_134 (by decide) ?_
          refine j_aload_n (i := 0) (t := 139) C d_M_canOf_138 rfl rfl (by first | exact jrv_r | exact jrv_n | exact jrv_f) rfl ?_
          refine j_get (t := 142) C fl_M_58 d_M_canOf_139 hM.1 rfl rfl ?_
          refine j_iload_n (i := 1) (t := 143) C d_M_canOf_142 rfl rfl rfl ?_
          refine j_ld_kd (i := k) (t := 144) C d_M_canOf_143 hM (by first | rfl | simp only [nI_add, nI_mul, nI_1]) (by omega) ((r_st k hk).1.trans hK) rfl ?_
          refine j_if_ne (tgt := 155) (t := 147) C d_M_canOf_144 (by decide) rfl (fun h144 => absurd h144 (by decide)) (fun h144 => ?_)
          refine j_iload (t := 149) C d_M_canOf_147 rfl rfl ?_
          refine j_if_eq (tgt := 164) (t := 152) C d_M_canOf_149 (by decide) rfl (fun h149 => ?_) (fun h149 => absurd h149 (fun z => z rfl))
          refine j_iconst (x := 0) (t := 165) C d_M_canOf_164 rfl rfl ?_
          refine j_iadd (t := 166) C d_M_canOf_165 rfl ?_
          exact j_iret C d_M_canOf_166 (by first | rfl | exact nar_b) (⟨rfl, by rw [cAt_0 hK hkn, decide_eq_false hs, decide_eq_true hm]; decide⟩) (by omega) (by omega)
      · by_cases hs : g_km s (g_sc s k) < g_kr s (g_sc s k)
        · refine j_aload_n (i := 0) (t := 1) C d_M_canOf_0 rfl rfl (by first | exact jrv_r | exact jrv_n | exact jrv_f) rfl ?_
          refine j_get (t := 4) C fl_M_61 d_M_canOf_1 hM.1 rfl rfl ?_
          refine j_iload_n (i := 1) (t := 5) C d_M_canOf_4 rfl rfl rfl ?_
          refine j_ld_fi (i := k) (t := 6) C d_M_canOf_5 hM (by first | rfl | simp only [nI_add, nI_mul, nI_1]) (by omega) ((r_st k hk).2.1 hk5) rfl ?_
          refine j_istore_n (i := 2) (t := 7) (lv' := [(0, _), (1, _), (2, _)]) C d_M_canOf_6 rfl (by decide) (by decide) rfl rfl ?_
          refine j_aload_n (i := 0) (t := 8) C d_M_canOf_7 rfl rfl (by first | exact jrv_r | exact jrv_n | exact jrv_f) rfl ?_
          refine j_get (t := 11) C fl_M_58 d_M_canOf_8 hM.1 rfl rfl ?_
          refine j_iload_n (i := 1) (t := 12) C d_M_canOf_11 rfl rfl rfl ?_
          refine j_ld_kd (i := k) (t := 13) C d_M_canOf_12 hM (by first | rfl | simp only [nI_add, nI_mul, nI_1]) (by omega) ((r_st k hk).1.trans hK) rfl ?_
          refine j_iconst (x := 4) (t := 14) C d_M_canOf_13 rfl rfl ?_
          refine j_icmp_ne (tgt := 26) (t := 17) C d_M_canOf_14 (by decide) rfl (fun h14 => ?_) (fun h14 => absurd h14 (by decide))
          refine j_iload_n (i := 2) (t := 27) C d_M_canOf_26 rfl rfl rfl ?_
          refine j_istore_n (i := 3) (t := 28) (lv' := [(0, _), (1, _), (2, _), (3, _)]) C d_M_canOf_27 rfl (by decide) (by decide) rfl rfl ?_
          refine j_aload_n (i := 0) (t := 29) C d_M_canOf_28 rfl rfl (by first | exact jrv_r | exact jrv_n | exact jrv_f) rfl ?_
          refine j_get (t := 32) C fl_M_45 d_M_canOf_29 hM.1 rfl rfl ?_
          refine j_iload_n (i := 2) (t := 33) C d_M_canOf_32 rfl rfl rfl ?_
          refine j_ld_kn (i := g_sc s k) (t := 34) C d_M_canOf_33 hM (by first | rfl | simp only [nI_add, nI_mul, nI_1]) (by omega) (hknM) rfl ?_
          refine j_if_eq (tgt := 46) (t := 37) C d_M_canOf_34 (by decide) rfl (fun h34 => absurd h34 (by decide)) (fun h34 => ?_)
          refine j_aload_n (i := 0) (t := 38) C d_M_canOf_37 rfl rfl (by first | exact jrv_r | exact jrv_n | exact jrv_f) rfl ?_
          refine j_get (t := 41) C fl_M_45 d_M_canOf_38 hM.1 rfl rfl ?_
          refine j_iload_n (i := 3) (t := 42) C d_M_canOf_41 rfl rfl rfl ?_
          refine j_ld_kn (i := g_sc s k) (t := 43) C d_M_canOf_42 hM (by first | rfl | simp only [nI_add, nI_mul, nI_1]) (by omega) (hknM) rfl ?_
          refine j_if_ne (tgt := 63) (t := 46) C d_M_canOf_43 (by decide) rfl (fun h43 => ?_) (fun h43 => absurd h43 (by decide))
          refine j_aload_n (i := 0) (t := 64) C d_M_canOf_63 rfl rfl (by first | exact jrv_r | exact jrv_n | exact jrv_f) rfl ?_
          refine j_get (t := 67) C fl_M_39 d_M_canOf_64 hM.1 rfl rfl ?_
          refine j_iload_n (i := 2) (t := 68) C d_M_canOf_67 rfl rfl rfl ?_
          refine j_ld_ms (i := g_sc s k) (t := 69) C d_M_canOf_68 hM (by first | rfl | simp only [nI_add, nI_mul, nI_1]) (by omega) (hkm) rfl ?_
          refine j_if_le (tgt := 76) (t := 72) C d_M_canOf_69 (by decide) rfl (fun h69 => ?_) (fun h69 => absurd h69 (fun z => z (Int32.not_lt.mp hm)))
          refine j_iconst (x := 0) (t := 77) C d_M_canOf_76 rfl rfl ?_
          refine j_istore (i := 4) (t := 79) (lv' := [(0, _), (1, _), (2, _), (3, _), (4, _)]) C d_M_canOf_77 (by decide) (by decide) rfl rfl ?_
          refine j_aload_n (i := 0) (t := 80) C d_M_canOf_79 rfl rfl (by first | exact jrv_r | exact jrv_n | exact jrv_f) rfl ?_
          refine j_get (t := 83) C fl_M_36 d_M_canOf_80 hM.1 rfl rfl ?_
          refine j_iload_n (i := 2) (t := 84) C d_M_canOf_83 rfl rfl rfl ?_
          refine j_ld_rw (i := g_sc s k) (t := 85) C d_M_canOf_84 hM (by first | rfl | simp only [nI_add, nI_mul, nI_1]) (by omega) (hkr) rfl ?_
          refine j_aload_n (i := 0) (t := 86) C d_M_canOf_85 rfl rfl (by first | exact jrv_r | exact jrv_n | exact jrv_f) rfl ?_
          refine j_get (t := 89) C fl_M_39 d_M_canOf_86 hM.1 rfl rfl ?_
          refine j_iload_n (i := 2) (t := 90) C d_M_canOf_89 rfl rfl rfl ?_
          refine j_ld_ms (i := g_sc s k) (t := 91) C d_M_canOf_90 hM (by first | rfl | simp only [nI_add, nI_mul, nI_1]) (by omega) (hkm) rfl ?_
          refine j_icmp_le (tgt := 98) (t := 94) C d_M_canOf_91 (by decide) rfl (fun h91 => absurd h91 (Int32.not_le.mpr hs)) (fun h91 => ?_)
          refine j_iconst (x := 1) (t := 95) C d_M_canOf_94 rfl rfl ?_
          refine j_goto (tgt := 99) C d_M_canOf_95 (by decide) ?_
          refine j_istore (i := 5) (t := 101) (lv' := [(0, _), (1, _), (2, _), (3, _), (4, _), (5, _)]) C d_M_canOf_99 (by decide) (by decide) rfl rfl ?_
          refine j_aload_n (i := 0) (t := 102) C d_M_canOf_101 rfl rfl (by first | exact jrv_r | exact jrv_n | exact jrv_f) rfl ?_
          refine j_get (t := 105) C fl_M_58 d_M_canOf_102 hM.1 rfl rfl ?_
          refine j_iload_n (i := 1) (t := 106) C d_M_canOf_105 rfl rfl rfl ?_
          refine j_ld_kd (i := k) (t := 107) C d_M_canOf_106 hM (by first | rfl | simp only [nI_add, nI_mul, nI_1]) (by omega) ((r_st k hk).1.trans hK) rfl ?_
          refine j_iconst (x := 2) (t := 108) C d_M_canOf_107 rfl rfl ?_
          refine j_icmp_ge (tgt := 167) (t := 111) C d_M_canOf_108 (by decide) rfl (fun h108 => absurd h108 (by decide)) (fun h108 => ?_)
          refine j_aload_n (i := 0) (t := 112) C d_M_canOf_111 rfl rfl (by first | exact jrv_r | exact jrv_n | exact jrv_f) rfl ?_
          refine j_get (t := 115) C fl_M_58 d_M_canOf_112 hM.1 rfl rfl ?_
          refine j_iload_n (i := 1) (t := 116) C d_M_canOf_115 rfl rfl rfl ?_
          refine j_ld_kd (i := k) (t := 117) C d_M_canOf_116 hM (by first | rfl | simp only [nI_add, nI_mul, nI_1]) (by omega) ((r_st k hk).1.trans hK) rfl ?_
          refine j_if_ne (tgt := 128) (t := 120) C d_M_canOf_117 (by decide) rfl (fun h117 => absurd h117 (by decide)) (fun h117 => ?_)
          refine j_iload (t := 122) C d_M_canOf_120 rfl rfl ?_
          refine j_if_eq (tgt := 137) (t := 125) C d_M_canOf_122 (by decide) rfl (fun h122 => ?_) (fun h122 => absurd h122 (fun z => z rfl))
          refine j_iconst (x := 0) (t := 138) C d_M_canOf_137 rfl rfl ?_
          refine j_aload_n (i := 0) (t := 139) C d_M_canOf_138 rfl rfl (by first | exact jrv_r | exact jrv_n | exact jrv_f) rfl ?_
          refine j_get (t := 142) C fl_M_58 d_M_canOf_139 hM.1 rfl rfl ?_
          refine j_iload_n (i := 1) (t := 143) C d_M_canOf_142 rfl rfl rfl ?_
          refine j_ld_kd (i := k) (t := 144) C d_M_canOf_143 hM (by first | rfl | simp only [nI_add, nI_mul, nI_1]) (by omega) ((r_st k hk).1.trans hK) rfl ?_
          refine j_if_ne (tgt := 155) (t := 147) C d_M_canOf_144 (by decide) rfl (fun h144 => absurd h144 (by decide)) (fun h144 => ?_)
          refine j_iload (t := 149) C d_M_canOf_147 rfl rfl ?_
          refine j_if_eq (tgt := 164) (t := 152) C d_M_canOf_149 (by decide) rfl (fun h149 => absurd h149 (by decide)) (fun h149 => ?_)
          refine j_goto (tgt := 160) C d_M_canOf_152 (by decide) ?_
          refine j_iconst (x := 1) (t := 161) C d_M_canOf_160 rfl rfl ?_
          refine j_goto (tgt := 165) C d_M_canOf_161 (by decide) ?_
          refine j_iadd (t := 166) C d_M_canOf_165 rfl ?_
          exact j_iret C d_M_canOf_166 (by first | rfl | exact nar_b) (⟨rfl, by rw [cAt_0 hK hkn, decide_eq_true hs, decide_eq_false hm]; decide⟩) (by omega) (by omega)
        · refine j_aload_n (i := 0) (t := 1) C d_M_canOf_0 rfl rfl (by first | exact jrv_r | exact jrv_n | exact jrv_f) rfl ?_
          refine j_get (t := 4) C fl_M_61 d_M_canOf_1 hM.1 rfl rfl ?_
          refine j_iload_n (i := 1) (t := 5) C d_M_canOf_4 rfl rfl rfl ?_
          refine j_ld_fi (i := k) (t := 6) C d_M_canOf_5 hM (by first | rfl | simp only [nI_add, nI_mul, nI_1]) (by omega) ((r_st k hk).2.1 hk5) rfl ?_
          refine j_istore_n (i := 2) (t := 7) (lv' := [(0, _), (1, _), (2, _)]) C d_M_canOf_6 rfl (by decide) (by decide) rfl rfl ?_
          refine j_aload_n (i := 0) (t := 8) C d_M_canOf_7 rfl rfl (by first | exact jrv_r | exact jrv_n | exact jrv_f) rfl ?_
          refine j_get (t := 11) C fl_M_58 d_M_canOf_8 hM.1 rfl rfl ?_
          refine j_iload_n (i := 1) (t := 12) C d_M_canOf_11 rfl rfl rfl ?_
          refine j_ld_kd (i := k) (t := 13) C d_M_canOf_12 hM (by first | rfl | simp only [nI_add, nI_mul, nI_1]) (by omega) ((r_st k hk).1.trans hK) rfl ?_
          refine j_iconst (x := 4) (t := 14) C d_M_canOf_13 rfl rfl ?_
          refine j_icmp_ne (tgt := 26) (t := 17) C d_M_canOf_14 (by decide) rfl (fun h14 => ?_) (fun h14 => absurd h14 (by decide))
          refine j_iload_n (i := 2) (t := 27) C d_M_canOf_26 rfl rfl rfl ?_
          refine j_istore_n (i := 3) (t := 28) (lv' := [(0, _), (1, _), (2, _), (3, _)]) C d_M_canOf_27 rfl (by decide) (by decide) rfl rfl ?_
          refine j_aload_n (i := 0) (t := 29) C d_M_canOf_28 rfl rfl (by first | exact jrv_r | exact jrv_n | exact jrv_f) rfl ?_
          refine j_get (t := 32) C fl_M_45 d_M_canOf_29 hM.1 rfl rfl ?_
          refine j_iload_n (i := 2) (t := 33) C d_M_canOf_32 rfl rfl rfl ?_
          refine j_ld_kn (i := g_sc s k) (t := 34) C d_M_canOf_33 hM (by first | rfl | simp only [nI_add, nI_mul, nI_1]) (by omega) (hknM) rfl ?_
          refine j_if_eq (tgt := 46) (t := 37) C d_M_canOf_34 (by decide) rfl (fun h34 => absurd h34 (by decide)) (fun h34 => ?_)
          refine j_aload_n (i := 0) (t := 38) C d_M_canOf_37 rfl rfl (by first | exact jrv_r | exact jrv_n | exact jrv_f) rfl ?_
          refine j_get (t := 41) C fl_M_45 d_M_canOf_38 hM.1 rfl rfl ?_
          refine j_iload_n (i := 3) (t := 42) C d_M_canOf_41 rfl rfl rfl ?_
          refine j_ld_kn (i := g_sc s k) (t := 43) C d_M_canOf_42 hM (by first | rfl | simp only [nI_add, nI_mul, nI_1]) (by omega) (hknM) rfl ?_
          refine j_if_ne (tgt := 63) (t := 46) C d_M_canOf_43 (by decide) rfl (fun h43 => ?_) (fun h43 => absurd h43 (by decide))
          refine j_aload_n (i := 0) (t := 64) C d_M_canOf_63 rfl rfl (by first | exact jrv_r | exact jrv_n | exact jrv_f) rfl ?_
          refine j_get (t := 67) C fl_M_39 d_M_canOf_64 hM.1 rfl rfl ?_
          refine j_iload_n (i := 2) (t := 68) C d_M_canOf_67 rfl rfl rfl ?_
          refine j_ld_ms (i := g_sc s k) (t := 69) C d_M_canOf_68 hM (by first | rfl | simp only [nI_add, nI_mul, nI_1]) (by omega) (hkm) rfl ?_
          refine j_if_le (tgt := 76) (t := 72) C d_M_canOf_69 (by decide) rfl (fun h69 => ?_) (fun h69 => absurd h69 (fun z => z (Int32.not_lt.mp hm)))
          refine j_iconst (x := 0) (t := 77) C d_M_canOf_76 rfl rfl ?_
          refine j_istore (i := 4) (t := 79) (lv' := [(0, _), (1, _), (2, _), (3, _), (4, _)]) C d_M_canOf_77 (by decide) (by decide) rfl rfl ?_
          refine j_aload_n (i := 0) (t := 80) C d_M_canOf_79 rfl rfl (by first | exact jrv_r | exact jrv_n | exact jrv_f) rfl ?_
          refine j_get (t := 83) C fl_M_36 d_M_canOf_80 hM.1 rfl rfl ?_
          refine j_iload_n (i := 2) (t := 84) C d_M_canOf_83 rfl rfl rfl ?_
          refine j_ld_rw (i := g_sc s k) (t := 85) C d_M_canOf_84 hM (by first | rfl | simp only [nI_add, nI_mul, nI_1]) (by omega) (hkr) rfl ?_
          refine j_aload_n (i := 0) (t := 86) C d_M_canOf_85 rfl rfl (by first | exact jrv_r | exact jrv_n | exact jrv_f) rfl ?_
          refine j_get (t := 89) C fl_M_39 d_M_canOf_86 hM.1 rfl rfl ?_
          refine j_iload_n (i := 2) (t := 90) C d_M_canOf_89 rfl rfl rfl ?_
          refine j_ld_ms (i := g_sc s k) (t := 91) C d_M_canOf_90 hM (by first | rfl | simp only [nI_add, nI_mul, nI_1]) (by omega) (hkm) rfl ?_
          refine j_icmp_le (tgt := 98) (t := 94) C d_M_canOf_91 (by decide) rfl (fun h91 => ?_) (fun h91 => absurd h91 (fun z => z (Int32.not_lt.mp hs)))
          refine j_iconst (x := 0) (t := 99) C d_M_canOf_98 rfl rfl ?_
          refine j_istore (i := 5) (t := 101) (lv' := [(0, _), (1, _), (2, _), (3, _), (4, _), (5, _)]) C d_M_canOf_99 (by decide) (by decide) rfl rfl ?_
          refine j_aload_n (i := 0) (t := 102) C d_M_canOf_101 rfl rfl (by first | exact jrv_r | exact jrv_n | exact jrv_f) rfl ?_
          refine j_get (t := 105) C fl_M_58 d_M_canOf_102 hM.1 rfl rfl ?_
          refine j_iload_n (i := 1) (t := 106) C d_M_canOf_105 rfl rfl rfl ?_
          refine j_ld_kd (i := k) (t := 107) C d_M_canOf_106 hM (by first | rfl | simp only [nI_add, nI_mul, nI_1]) (by omega) ((r_st k hk).1.trans hK) rfl ?_
          refine j_iconst (x := 2) (t := 108) C d_M_canOf_107 rfl rfl ?_
          refine j_icmp_ge (tgt := 167) (t := 111) C d_M_canOf_108 (by decide) rfl (fun h108 => absurd h108 (by decide)) (fun h108 => ?_)
          refine j_aload_n (i := 0) (t := 112) C d_M_canOf_111 rfl rfl (by first | exact jrv_r | exact jrv_n | exact jrv_f) rfl ?_
          refine j_get (t := 115) C fl_M_58 d_M_canOf_112 hM.1 rfl rfl ?_
          refine j_iload_n (i := 1) (t := 116) C d_M_canOf_115 rfl rfl rfl ?_
          refine j_ld_kd (i := k) (t := 117) C d_M_canOf_116 hM (by first | rfl | simp only [nI_add, nI_mul, nI_1]) (by omega) ((r_st k hk).1.trans hK) rfl ?_
          refine j_if_ne (tgt := 128) (t := 120) C d_M_canOf_117 (by decide) rfl (fun h117 => absurd h117 (by decide)) (fun h117 => ?_)
          refine j_iload (t := 122) C d_M_canOf_120 rfl rfl ?_
          refine j_if_eq (tgt := 137) (t := 125) C d_M_canOf_122 (by decide) rfl (fun h122 => ?_) (fun h122 => absurd h122 (fun z => z rfl))
          refine j_iconst (x := 0) (t := 138) C d_M_canOf_137 rfl rfl ?_
          refine j_aload_n (i := 0) (t := 139) C d_M_canOf_138 rfl rfl (by first | exact jrv_r | exact jrv_n | exact jrv_f) rfl ?_
          refine j_get (t := 142) C fl_M_58 d_M_canOf_139 hM.1 rfl rfl ?_
          refine j_iload_n (i := 1) (t := 143) C d_M_canOf_142 rfl rfl rfl ?_
          refine j_ld_kd (i := k) (t := 144) C d_M_canOf_143 hM (by first | rfl | simp only [nI_add, nI_mul, nI_1]) (by omega) ((r_st k hk).1.trans hK) rfl ?_
          refine j_if_ne (tgt := 155) (t := 147) C d_M_canOf_144 (by decide) rfl (fun h144 => absurd h144 (by decide)) (fun h144 => ?_)
          refine j_iload (t := 149) C d_M_canOf_147 rfl rfl ?_
          refine j_if_eq (tgt := 164) (t := 152) C d_M_canOf_149 (by decide) rfl (fun h149 => ?_) (fun h149 => absurd h149 (fun z => z rfl))
          refine j_iconst (x := 0) (t := 165) C d_M_canOf_164 rfl rfl ?_
          refine j_iadd (t := 166) C d_M_canOf_165 rfl ?_
          exact j_iret C d_M_canOf_166 (by first | rfl | exact nar_b) (⟨rfl, by rw [cAt_0 hK hkn, decide_eq_false hs, decide_eq_false hm]; decide⟩) (by omega) (by omega)
  · cases hkn : g_kn s (g_sc s k) with
    | false =>
      rw [hkn] at hknM
      refine j_aload_n (i := 0) (t := 1) C d_M_canOf_0 rfl rfl (by first | exact jrv_r | exact jrv_n | exact jrv_f) rfl ?_
      refine j_get (t := 4) C fl_M_61 d_M_canOf_1 hM.1 rfl rfl ?_
      refine j_iload_n (i := 1) (t := 5) C d_M_canOf_4 rfl rfl rfl ?_
      refine j_ld_fi (i := k) (t := 6) C d_M_canOf_5 hM (by first | rfl | simp only [nI_add, nI_mul, nI_1]) (by omega) ((r_st k hk).2.1 hk5) rfl ?_
      refine j_istore_n (i := 2) (t := 7) (lv' := [(0, _), (1, _), (2, _)]) C d_M_canOf_6 rfl (by decide) (by decide) rfl rfl ?_
      refine j_aload_n (i := 0) (t := 8) C d_M_canOf_7 rfl rfl (by first | exact jrv_r | exact jrv_n | exact jrv_f) rfl ?_
      refine j_get (t := 11) C fl_M_58 d_M_canOf_8 hM.1 rfl rfl ?_
      refine j_iload_n (i := 1) (t := 12) C d_M_canOf_11 rfl rfl rfl ?_
      refine j_ld_kd (i := k) (t := 13) C d_M_canOf_12 hM (by first | rfl | simp only [nI_add, nI_mul, nI_1]) (by omega) ((r_st k hk).1.trans hK) rfl ?_
      refine j_iconst (x := 4) (t := 14) C d_M_canOf_13 rfl rfl ?_
      refine j_icmp_ne (tgt := 26) (t := 17) C d_M_canOf_14 (by decide) rfl (fun h14 => ?_) (fun h14 => absurd h14 (by decide))
      refine j_iload_n (i := 2) (t := 27) C d_M_canOf_26 rfl rfl rfl ?_
      refine j_istore_n (i := 3) (t := 28) (lv' := [(0, _), (1, _), (2, _), (3, _)]) C d_M_canOf_27 rfl (by decide) (by decide) rfl rfl ?_
      refine j_aload_n (i := 0) (t := 29) C d_M_canOf_28 rfl rfl (by first | exact jrv_r | exact jrv_n | exact jrv_f) rfl ?_
      refine j_get (t := 32) C fl_M_45 d_M_canOf_29 hM.1 rfl rfl ?_
      refine j_iload_n (i := 2) (t := 33) C d_M_canOf_32 rfl rfl rfl ?_
      refine j_ld_kn (i := g_sc s k) (t := 34) C d_M_canOf_33 hM (by first | rfl | simp only [nI_add, nI_mul, nI_1]) (by omega) (hknM) rfl ?_
      refine j_if_eq (tgt := 46) (t := 37) C d_M_canOf_34 (by decide) rfl (fun h34 => ?_) (fun h34 => absurd h34 (fun z => z rfl))
      refine j_aload_n (i := 0) (t := 47) C d_M_canOf_46 rfl rfl (by first | exact jrv_r | exact jrv_n | exact jrv_f) rfl ?_
      refine j_get (t := 50) C fl_M_58 d_M_canOf_47 hM.1 rfl rfl ?_
      refine j_iload_n (i := 1) (t := 51) C d_M_canOf_50 rfl rfl rfl ?_
      refine j_ld_kd (i := k) (t := 52) C d_M_canOf_51 hM (by first | rfl | simp only [nI_add, nI_mul, nI_1]) (by omega) ((r_st k hk).1.trans hK) rfl ?_
      refine j_iconst (x := 2) (t := 53) C d_M_canOf_52 rfl rfl ?_
      refine j_icmp_ge (tgt := 60) (t := 56) C d_M_canOf_53 (by decide) rfl (fun h53 => absurd h53 (by decide)) (fun h53 => ?_)
      refine j_iconst (x := 3) (t := 57) C d_M_canOf_56 rfl rfl ?_
      refine j_goto (tgt := 62) C d_M_canOf_57 (by decide) ?_
      exact j_iret C d_M_canOf_62 (by first | rfl | exact nar_b) (⟨rfl, by rw [cAt_u0 (Or.inr hK) hkn]⟩) (by omega) (by omega)
    | true =>
      rw [hkn] at hknM
      have hknn := (r_col _ hsc).2.2.2.2.2 hkn
      have hkr := hknn.1
      have hkm := hknn.2.1
      obtain ⟨q1, q2, q3, q4, -⟩ := (wcol _ hsc).2.2.2.2 hkn
      by_cases hm : 0 < g_km s (g_sc s k)
      · by_cases hs : g_km s (g_sc s k) < g_kr s (g_sc s k)
        · refine j_aload_n (i := 0) (t := 1) C d_M_canOf_0 rfl rfl (by first | exact jrv_r | exact jrv_n | exact jrv_f) rfl ?_
          refine j_get (t := 4) C fl_M_61 d_M_canOf_1 hM.1 rfl rfl ?_
          refine j_iload_n (i := 1) (t := 5) C d_M_canOf_4 rfl rfl rfl ?_
          refine j_ld_fi (i := k) (t := 6) C d_M_canOf_5 hM (by first | rfl | simp only [nI_add, nI_mul, nI_1]) (by omega) ((r_st k hk).2.1 hk5) rfl ?_
          refine j_istore_n (i := 2) (t := 7) (lv' := [(0, _), (1, _), (2, _)]) C d_M_canOf_6 rfl (by decide) (by decide) rfl rfl ?_
          refine j_aload_n (i := 0) (t := 8) C d_M_canOf_7 rfl rfl (by first | exact jrv_r | exact jrv_n | exact jrv_f) rfl ?_
          refine j_get (t := 11) C fl_M_58 d_M_canOf_8 hM.1 rfl rfl ?_
          refine j_iload_n (i := 1) (t := 12) C d_M_canOf_11 rfl rfl rfl ?_
          refine j_ld_kd (i := k) (t := 13) C d_M_canOf_12 hM (by first | rfl | simp only [nI_add, nI_mul, nI_1]) (by omega) ((r_st k hk).1.trans hK) rfl ?_
          refine j_iconst (x := 4) (t := 14) C d_M_canOf_13 rfl rfl ?_
          refine j_icmp_ne (tgt := 26) (t := 17) C d_M_canOf_14 (by decide) rfl (fun h14 => ?_) (fun h14 => absurd h14 (by decide))
          refine j_iload_n (i := 2) (t := 27) C d_M_canOf_26 rfl rfl rfl ?_
          refine j_istore_n (i := 3) (t := 28) (lv' := [(0, _), (1, _), (2, _), (3, _)]) C d_M_canOf_27 rfl (by decide) (by decide) rfl rfl ?_
          refine j_aload_n (i := 0) (t := 29) C d_M_canOf_28 rfl rfl (by first | exact jrv_r | exact jrv_n | exact jrv_f) rfl ?_
          refine j_get (t := 32) C fl_M_45 d_M_canOf_29 hM.1 rfl rfl ?_
          refine j_iload_n (i := 2) (t := 33) C d_M_canOf_32 rfl rfl rfl ?_
          refine j_ld_kn (i := g_sc s k) (t := 34) C d_M_canOf_33 hM (by first | rfl | simp only [nI_add, nI_mul, nI_1]) (by omega) (hknM) rfl ?_
          refine j_if_eq (tgt := 46) (t := 37) C d_M_canOf_34 (by decide) rfl (fun h34 => absurd h34 (by decide)) (fun h34 => ?_)
          refine j_aload_n (i := 0) (t := 38) C d_M_canOf_37 rfl rfl (by first | exact jrv_r | exact jrv_n | exact jrv_f) rfl ?_
          refine j_get (t := 41) C fl_M_45 d_M_canOf_38 hM.1 rfl rfl ?_
          refine j_iload_n (i := 3) (t := 42) C d_M_canOf_41 rfl rfl rfl ?_
          refine j_ld_kn (i := g_sc s k) (t := 43) C d_M_canOf_42 hM (by first | rfl | simp only [nI_add, nI_mul, nI_1]) (by omega) (hknM) rfl ?_
          refine j_if_ne (tgt := 63) (t := 46) C d_M_canOf_43 (by decide) rfl (fun h43 => ?_) (fun h43 => absurd h43 (by decide))
          refine j_aload_n (i := 0) (t := 64) C d_M_canOf_63 rfl rfl (by first | exact jrv_r | exact jrv_n | exact jrv_f) rfl ?_
          refine j_get (t := 67) C fl_M_39 d_M_canOf_64 hM.1 rfl rfl ?_
          refine j_iload_n (i := 2) (t := 68) C d_M_canOf_67 rfl rfl rfl ?_
          refine j_ld_ms (i := g_sc s k) (t := 69) C d_M_canOf_68 hM (by first | rfl | simp only [nI_add, nI_mul, nI_1]) (by omega) (hkm) rfl ?_
          refine j_if_le (tgt := 76) (t := 72) C d_M_canOf_69 (by decide) rfl (fun h69 => absurd h69 (Int32.not_le.mpr hm)) (fun h69 => ?_)
          refine j_iconst (x := 1) (t := 73) C d_M_canOf_72 rfl rfl ?_
          refine j_goto (tgt := 77) C d_M_canOf_73 (by decide) ?_
          refine j_istore (i := 4) (t := 79) (lv' := [(0, _), (1, _), (2, _), (3, _), (4, _)]) C d_M_canOf_77 (by decide) (by decide) rfl rfl ?_
          refine j_aload_n (i := 0) (t := 80) C d_M_canOf_79 rfl rfl (by first | exact jrv_r | exact jrv_n | exact jrv_f) rfl ?_
          refine j_get (t := 83) C fl_M_36 d_M_canOf_80 hM.1 rfl rfl ?_
          refine j_iload_n (i := 2) (t := 84) C d_M_canOf_83 rfl rfl rfl ?_
          refine j_ld_rw (i := g_sc s k) (t := 85) C d_M_canOf_84 hM (by first | rfl | simp only [nI_add, nI_mul, nI_1]) (by omega) (hkr) rfl ?_
          refine j_aload_n (i := 0) (t := 86) C d_M_canOf_85 rfl rfl (by first | exact jrv_r | exact jrv_n | exact jrv_f) rfl ?_
          refine j_get (t := 89) C fl_M_39 d_M_canOf_86 hM.1 rfl rfl ?_
          refine j_iload_n (i := 2) (t := 90) C d_M_canOf_89 rfl rfl rfl ?_
          refine j_ld_ms (i := g_sc s k) (t := 91) C d_M_canOf_90 hM (by first | rfl | simp only [nI_add, nI_mul, nI_1]) (by omega) (hkm) rfl ?_
          refine j_icmp_le (tgt := 98) (t := 94) C d_M_canOf_91 (by decide) rfl (fun h91 => absurd h91 (Int32.not_le.mpr hs)) (fun h91 => ?_)
          refine j_iconst (x := 1) (t := 95) C d_M_canOf_94 rfl rfl ?_
          refine j_goto (tgt := 99) C d_M_canOf_95 (by decide) ?_
          refine j_istore (i := 5) (t := 101) (lv' := [(0, _), (1, _), (2, _), (3, _), (4, _), (5, _)]) C d_M_canOf_99 (by decide) (by decide) rfl rfl ?_
          refine j_aload_n (i := 0) (t := 102) C d_M_canOf_101 rfl rfl (by first | exact jrv_r | exact jrv_n | exact jrv_f) rfl ?_
          refine j_get (t := 105) C fl_M_58 d_M_canOf_102 hM.1 rfl rfl ?_
          refine j_iload_n (i := 1) (t := 106) C d_M_canOf_105 rfl rfl rfl ?_
          refine j_ld_kd (i := k) (t := 107) C d_M_canOf_106 hM (by first | rfl | simp only [nI_add, nI_mul, nI_1]) (by omega) ((r_st k hk).1.trans hK) rfl ?_
          refine j_iconst (x := 2) (t := 108) C d_M_canOf_107 rfl rfl ?_
          refine j_icmp_ge (tgt := 167) (t := 111) C d_M_canOf_108 (by decide) rfl (fun h108 => absurd h108 (by decide)) (fun h108 => ?_)
          refine j_aload_n (i := 0) (t := 112) C d_M_canOf_111 rfl rfl (by first | exact jrv_r | exact jrv_n | exact jrv_f) rfl ?_
          refine j_get (t := 115) C fl_M_58 d_M_canOf_112 hM.1 rfl rfl ?_
          refine j_iload_n (i := 1) (t := 116) C d_M_canOf_115 rfl rfl rfl ?_
          refine j_ld_kd (i := k) (t := 117) C d_M_canOf_116 hM (by first | rfl | simp only [nI_add, nI_mul, nI_1]) (by omega) ((r_st k hk).1.trans hK) rfl ?_
          refine j_if_ne (tgt := 128) (t := 120) C d_M_canOf_117 (by decide) rfl (fun h117 => ?_) (fun h117 => absurd h117 (by decide))
          refine j_iload (t := 130) C d_M_canOf_128 rfl rfl ?_
          refine j_if_eq (tgt := 137) (t := 133) C d_M_canOf_130 (by decide) rfl (fun h130 => absurd h130 (by decide)) (fun h130 => ?_)
          refine j_iconst (x := 2) (t := 134) C d_M_canOf_133 rfl rfl ?_
          refine j_goto (tgt := 138) C d_M_canOf_134 (by decide) ?_
          refine j_aload_n (i := 0) (t := 139) C d_M_canOf_138 rfl rfl (by first | exact jrv_r | exact jrv_n | exact jrv_f) rfl ?_
          refine j_get (t := 142) C fl_M_58 d_M_canOf_139 hM.1 rfl rfl ?_
          refine j_iload_n (i := 1) (t := 143) C d_M_canOf_142 rfl rfl rfl ?_
          refine j_ld_kd (i := k) (t := 144) C d_M_canOf_143 hM (by first | rfl | simp only [nI_add, nI_mul, nI_1]) (by omega) ((r_st k hk).1.trans hK) rfl ?_
          refine j_if_ne (tgt := 155) (t := 147) C d_M_canOf_144 (by decide) rfl (fun h144 => ?_) (fun h144 => absurd h144 (by decide))
          refine j_iload (t := 157) C d_M_canOf_155 rfl rfl ?_
          refine j_if_eq (tgt := 164) (t := 160) C d_M_canOf_157 (by decide) rfl (fun h157 => absurd h157 (by decide)) (fun h157 => ?_)
          refine j_iconst (x := 1) (t := 161) C d_M_canOf_160 rfl rfl ?_
          refine j_goto (tgt := 165) C d_M_canOf_161 (by decide) ?_
          refine j_iadd (t := 166) C d_M_canOf_165 rfl ?_
          exact j_iret C d_M_canOf_166 (by first | rfl | exact nar_b) (⟨rfl, by rw [cAt_1 hK hkn, decide_eq_true hs, decide_eq_true hm]; decide⟩) (by omega) (by omega)
        · refine j_aload_n (i := 0) (t := 1) C d_M_canOf_0 rfl rfl (by first | exact jrv_r | exact jrv_n | exact jrv_f) rfl ?_
          refine j_get (t := 4) C fl_M_61 d_M_canOf_1 hM.1 rfl rfl ?_
          refine j_iload_n (i := 1) (t := 5) C d_M_canOf_4 rfl rfl rfl ?_
          refine j_ld_fi (i := k) (t := 6) C d_M_canOf_5 hM (by first | rfl | simp only [nI_add, nI_mul, nI_1]) (by omega) ((r_st k hk).2.1 hk5) rfl ?_
          refine j_istore_n (i := 2) (t := 7) (lv' := [(0, _), (1, _), (2, _)]) C d_M_canOf_6 rfl (by decide) (by decide) rfl rfl ?_
          refine j_aload_n (i := 0) (t := 8) C d_M_canOf_7 rfl rfl (by first | exact jrv_r | exact jrv_n | exact jrv_f) rfl ?_
          refine j_get (t := 11) C fl_M_58 d_M_canOf_8 hM.1 rfl rfl ?_
          refine j_iload_n (i := 1) (t := 12) C d_M_canOf_11 rfl rfl rfl ?_
          refine j_ld_kd (i := k) (t := 13) C d_M_canOf_12 hM (by first | rfl | simp only [nI_add, nI_mul, nI_1]) (by omega) ((r_st k hk).1.trans hK) rfl ?_
          refine j_iconst (x := 4) (t := 14) C d_M_canOf_13 rfl rfl ?_
          refine j_icmp_ne (tgt := 26) (t := 17) C d_M_canOf_14 (by decide) rfl (fun h14 => ?_) (fun h14 => absurd h14 (by decide))
          refine j_iload_n (i := 2) (t := 27) C d_M_canOf_26 rfl rfl rfl ?_
          refine j_istore_n (i := 3) (t := 28) (lv' := [(0, _), (1, _), (2, _), (3, _)]) C d_M_canOf_27 rfl (by decide) (by decide) rfl rfl ?_
          refine j_aload_n (i := 0) (t := 29) C d_M_canOf_28 rfl rfl (by first | exact jrv_r | exact jrv_n | exact jrv_f) rfl ?_
          refine j_get (t := 32) C fl_M_45 d_M_canOf_29 hM.1 rfl rfl ?_
          refine j_iload_n (i := 2) (t := 33) C d_M_canOf_32 rfl rfl rfl ?_
          refine j_ld_kn (i := g_sc s k) (t := 34) C d_M_canOf_33 hM (by first | rfl | simp only [nI_add, nI_mul, nI_1]) (by omega) (hknM) rfl ?_
          refine j_if_eq (tgt := 46) (t := 37) C d_M_canOf_34 (by decide) rfl (fun h34 => absurd h34 (by decide)) (fun h34 => ?_)
          refine j_aload_n (i := 0) (t := 38) C d_M_canOf_37 rfl rfl (by first | exact jrv_r | exact jrv_n | exact jrv_f) rfl ?_
          refine j_get (t := 41) C fl_M_45 d_M_canOf_38 hM.1 rfl rfl ?_
          refine j_iload_n (i := 3) (t := 42) C d_M_canOf_41 rfl rfl rfl ?_
          refine j_ld_kn (i := g_sc s k) (t := 43) C d_M_canOf_42 hM (by first | rfl | simp only [nI_add, nI_mul, nI_1]) (by omega) (hknM) rfl ?_
          refine j_if_ne (tgt := 63) (t := 46) C d_M_canOf_43 (by decide) rfl (fun h43 => ?_) (fun h43 => absurd h43 (by decide))
          refine j_aload_n (i := 0) (t := 64) C d_M_canOf_63 rfl rfl (by first | exact jrv_r | exact jrv_n | exact jrv_f) rfl ?_
          refine j_get (t := 67) C fl_M_39 d_M_canOf_64 hM.1 rfl rfl ?_
          refine j_iload_n (i := 2) (t := 68) C d_M_canOf_67 rfl rfl rfl ?_
          refine j_ld_ms (i := g_sc s k) (t := 69) C d_M_canOf_68 hM (by first | rfl | simp only [nI_add, nI_mul, nI_1]) (by omega) (hkm) rfl ?_
          refine j_if_le (tgt := 76) (t := 72) C d_M_canOf_69 (by decide) rfl (fun h69 => absurd h69 (Int32.not_le.mpr hm)) (fun h69 => ?_)
          refine j_iconst (x := 1) (t := 73) C d_M_canOf_72 rfl rfl ?_
          refine j_goto (tgt := 77) C d_M_canOf_73 (by decide) ?_
          refine j_istore (i := 4) (t := 79) (lv' := [(0, _), (1, _), (2, _), (3, _), (4, _)]) C d_M_canOf_77 (by decide) (by decide) rfl rfl ?_
          refine j_aload_n (i := 0) (t := 80) C d_M_canOf_79 rfl rfl (by first | exact jrv_r | exact jrv_n | exact jrv_f) rfl ?_
          refine j_get (t := 83) C fl_M_36 d_M_canOf_80 hM.1 rfl rfl ?_
          refine j_iload_n (i := 2) (t := 84) C d_M_canOf_83 rfl rfl rfl ?_
          refine j_ld_rw (i := g_sc s k) (t := 85) C d_M_canOf_84 hM (by first | rfl | simp only [nI_add, nI_mul, nI_1]) (by omega) (hkr) rfl ?_
          refine j_aload_n (i := 0) (t := 86) C d_M_canOf_85 rfl rfl (by first | exact jrv_r | exact jrv_n | exact jrv_f) rfl ?_
          refine j_get (t := 89) C fl_M_39 d_M_canOf_86 hM.1 rfl rfl ?_
          refine j_iload_n (i := 2) (t := 90) C d_M_canOf_89 rfl rfl rfl ?_
          refine j_ld_ms (i := g_sc s k) (t := 91) C d_M_canOf_90 hM (by first | rfl | simp only [nI_add, nI_mul, nI_1]) (by omega) (hkm) rfl ?_
          refine j_icmp_le (tgt := 98) (t := 94) C d_M_canOf_91 (by decide) rfl (fun h91 => ?_) (fun h91 => absurd h91 (fun z => z (Int32.not_lt.mp hs)))
          refine j_iconst (x := 0) (t := 99) C d_M_canOf_98 rfl rfl ?_
          refine j_istore (i := 5) (t := 101) (lv' := [(0, _), (1, _), (2, _), (3, _), (4, _), (5, _)]) C d_M_canOf_99 (by decide) (by decide) rfl rfl ?_
          refine j_aload_n (i := 0) (t := 102) C d_M_canOf_101 rfl rfl (by first | exact jrv_r | exact jrv_n | exact jrv_f) rfl ?_
          refine j_get (t := 105) C fl_M_58 d_M_canOf_102 hM.1 rfl rfl ?_
          refine j_iload_n (i := 1) (t := 106) C d_M_canOf_105 rfl rfl rfl ?_
          refine j_ld_kd (i := k) (t := 107) C d_M_canOf_106 hM (by first | rfl | simp only [nI_add, nI_mul, nI_1]) (by omega) ((r_st k hk).1.trans hK) rfl ?_
          refine j_iconst (x := 2) (t := 108) C d_M_canOf_107 rfl rfl ?_
          refine j_icmp_ge (tgt := 167) (t := 111) C d_M_canOf_108 (by decide) rfl (fun h108 => absurd h108 (by decide)) (fun h108 => ?_)
          refine j_aload_n (i := 0) (t := 112) C d_M_canOf_111 rfl rfl (by first | exact jrv_r | exact jrv_n | exact jrv_f) rfl ?_
          refine j_get (t := 115) C fl_M_58 d_M_canOf_112 hM.1 rfl rfl ?_
          refine j_iload_n (i := 1) (t := 116) C d_M_canOf_115 rfl rfl rfl ?_
          refine j_ld_kd (i := k) (t := 117) C d_M_canOf_116 hM (by first | rfl | simp only [nI_add, nI_mul, nI_1]) (by omega) ((r_st k hk).1.trans hK) rfl ?_
          refine j_if_ne (tgt := 128) (t := 120) C d_M_canOf_117 (by decide) rfl (fun h117 => ?_) (fun h117 => absurd h117 (by decide))
          refine j_iload (t := 130) C d_M_canOf_128 rfl rfl ?_
          refine j_if_eq (tgt := 137) (t := 133) C d_M_canOf_130 (by decide) rfl (fun h130 => ?_) (fun h130 => absurd h130 (fun z => z rfl))
          refine j_iconst (x := 0) (t := 138) C d_M_canOf_137 rfl rfl ?_
          refine j_aload_n (i := 0) (t := 139) C d_M_canOf_138 rfl rfl (by first | exact jrv_r | exact jrv_n | exact jrv_f) rfl ?_
          refine j_get (t := 142) C fl_M_58 d_M_canOf_139 hM.1 rfl rfl ?_
          refine j_iload_n (i := 1) (t := 143) C d_M_canOf_142 rfl rfl rfl ?_
          refine j_ld_kd (i := k) (t := 144) C d_M_canOf_143 hM (by first | rfl | simp only [nI_add, nI_mul, nI_1]) (by omega) ((r_st k hk).1.trans hK) rfl ?_
          refine j_if_ne (tgt := 155) (t := 147) C d_M_canOf_144 (by decide) rfl (fun h144 => ?_) (fun h144 => absurd h144 (by decide))
          refine j_iload (t := 157) C d_M_canOf_155 rfl rfl ?_
          refine j_if_eq (tgt := 164) (t := 160) C d_M_canOf_157 (by decide) rfl (fun h157 => absurd h157 (by decide)) (fun h157 => ?_)
          refine j_iconst (x := 1) (t := 161) C d_M_canOf_160 rfl rfl ?_
          refine j_goto (tgt := 165) C d_M_canOf_161 (by decide) ?_
          refine j_iadd (t := 166) C d_M_canOf_165 rfl ?_
          exact j_iret C d_M_canOf_166 (by first | rfl | exact nar_b) (⟨rfl, by rw [cAt_1 hK hkn, decide_eq_false hs, decide_eq_true hm]; decide⟩) (by omega) (by omega)
      · by_cases hs : g_km s (g_sc s k) < g_kr s (g_sc s k)
        · refine j_aload_n (i := 0) (t := 1) C d_M_canOf_0 rfl rfl (by first | exact jrv_r | exact jrv_n | exact jrv_f) rfl ?_
          refine j_get (t := 4) C fl_M_61 d_M_canOf_1 hM.1 rfl rfl ?_
          refine j_iload_n (i := 1) (t := 5) C d_M_canOf_4 rfl rfl rfl ?_
          refine j_ld_fi (i := k) (t := 6) C d_M_canOf_5 hM (by first | rfl | simp only [nI_add, nI_mul, nI_1]) (by omega) ((r_st k hk).2.1 hk5) rfl ?_
          refine j_istore_n (i := 2) (t := 7) (lv' := [(0, _), (1, _), (2, _)]) C d_M_canOf_6 rfl (by decide) (by decide) rfl rfl ?_
          refine j_aload_n (i := 0) (t := 8) C d_M_canOf_7 rfl rfl (by first | exact jrv_r | exact jrv_n | exact jrv_f) rfl ?_
          refine j_get (t := 11) C fl_M_58 d_M_canOf_8 hM.1 rfl rfl ?_
          refine j_iload_n (i := 1) (t := 12) C d_M_canOf_11 rfl rfl rfl ?_
          refine j_ld_kd (i := k) (t := 13) C d_M_canOf_12 hM (by first | rfl | simp only [nI_add, nI_mul, nI_1]) (by omega) ((r_st k hk).1.trans hK) rfl ?_
          refine j_iconst (x := 4) (t := 14) C d_M_canOf_13 rfl rfl ?_
          refine j_icmp_ne (tgt := 26) (t := 17) C d_M_canOf_14 (by decide) rfl (fun h14 => ?_) (fun h14 => absurd h14 (by decide))
          refine j_iload_n (i := 2) (t := 27) C d_M_canOf_26 rfl rfl rfl ?_
          refine j_istore_n (i := 3) (t := 28) (lv' := [(0, _), (1, _), (2, _), (3, _)]) C d_M_canOf_27 rfl (by decide) (by decide) rfl rfl ?_
          refine j_aload_n (i := 0) (t := 29) C d_M_canOf_28 rfl rfl (by first | exact jrv_r | exact jrv_n | exact jrv_f) rfl ?_
          refine j_get (t := 32) C fl_M_45 d_M_canOf_29 hM.1 rfl rfl ?_
          refine j_iload_n (i := 2) (t := 33) C d_M_canOf_32 rfl rfl rfl ?_
          refine j_ld_kn (i := g_sc s k) (t := 34) C d_M_canOf_33 hM (by first | rfl | simp only [nI_add, nI_mul, nI_1]) (by omega) (hknM) rfl ?_
          refine j_if_eq (tgt := 46) (t := 37) C d_M_canOf_34 (by decide) rfl (fun h34 => absurd h34 (by decide)) (fun h34 => ?_)
          refine j_aload_n (i := 0) (t := 38) C d_M_canOf_37 rfl rfl (by first | exact jrv_r | exact jrv_n | exact jrv_f) rfl ?_
          refine j_get (t := 41) C fl_M_45 d_M_canOf_38 hM.1 rfl rfl ?_
          refine j_iload_n (i := 3) (t := 42) C d_M_canOf_41 rfl rfl rfl ?_
          refine j_ld_kn (i := g_sc s k) (t := 43) C d_M_canOf_42 hM (by first | rfl | simp only [nI_add, nI_mul, nI_1]) (by omega) (hknM) rfl ?_
          refine j_if_ne (tgt := 63) (t := 46) C d_M_canOf_43 (by decide) rfl (fun h43 => ?_) (fun h43 => absurd h43 (by decide))
          refine j_aload_n (i := 0) (t := 64) C d_M_canOf_63 rfl rfl (by first | exact jrv_r | exact jrv_n | exact jrv_f) rfl ?_
          refine j_get (t := 67) C fl_M_39 d_M_canOf_64 hM.1 rfl rfl ?_
          refine j_iload_n (i := 2) (t := 68) C d_M_canOf_67 rfl rfl rfl ?_
          refine j_ld_ms (i := g_sc s k) (t := 69) C d_M_canOf_68 hM (by first | rfl | simp only [nI_add, nI_mul, nI_1]) (by omega) (hkm) rfl ?_
          refine j_if_le (tgt := 76) (t := 72) C d_M_canOf_69 (by decide) rfl (fun h69 => ?_) (fun h69 => absurd h69 (fun z => z (Int32.not_lt.mp hm)))
          refine j_iconst (x := 0) (t := 77) C d_M_canOf_76 rfl rfl ?_
          refine j_istore (i := 4) (t := 79) (lv' := [(0, _), (1, _), (2, _), (3, _), (4, _)]) C d_M_canOf_77 (by decide) (by decide) rfl rfl ?_
          refine j_aload_n (i := 0) (t := 80) C d_M_canOf_79 rfl rfl (by first | exact jrv_r | exact jrv_n | exact jrv_f) rfl ?_
          refine j_get (t := 83) C fl_M_36 d_M_canOf_80 hM.1 rfl rfl ?_
          refine j_iload_n (i := 2) (t := 84) C d_M_canOf_83 rfl rfl rfl ?_
          refine j_ld_rw (i := g_sc s k) (t := 85) C d_M_canOf_84 hM (by first | rfl | simp only [nI_add, nI_mul, nI_1]) (by omega) (hkr) rfl ?_
          refine j_aload_n (i := 0) (t := 86) C d_M_canOf_85 rfl rfl (by first | exact jrv_r | exact jrv_n | exact jrv_f) rfl ?_
          refine j_get (t := 89) C fl_M_39 d_M_canOf_86 hM.1 rfl rfl ?_
          refine j_iload_n (i := 2) (t := 90) C d_M_canOf_89 rfl rfl rfl ?_
          refine j_ld_ms (i := g_sc s k) (t := 91) C d_M_canOf_90 hM (by first | rfl | simp only [nI_add, nI_mul, nI_1]) (by omega) (hkm) rfl ?_
          refine j_icmp_le (tgt := 98) (t := 94) C d_M_canOf_91 (by decide) rfl (fun h91 => absurd h91 (Int32.not_le.mpr hs)) (fun h91 => ?_)
          refine j_iconst (x := 1) (t := 95) C d_M_canOf_94 rfl rfl ?_
          refine j_goto (tgt := 99) C d_M_canOf_95 (by decide) ?_
          refine j_istore (i := 5) (t := 101) (lv' := [(0, _), (1, _), (2, _), (3, _), (4, _), (5, _)]) C d_M_canOf_99 (by decide) (by decide) rfl rfl ?_
          refine j_aload_n (i := 0) (t := 102) C d_M_canOf_101 rfl rfl (by first | exact jrv_r | exact jrv_n | exact jrv_f) rfl ?_
          refine j_get (t := 105) C fl_M_58 d_M_canOf_102 hM.1 rfl rfl ?_
          refine j_iload_n (i := 1) (t := 106) C d_M_canOf_105 rfl rfl rfl ?_
          refine j_ld_kd (i := k) (t := 107) C d_M_canOf_106 hM (by first | rfl | simp only [nI_add, nI_mul, nI_1]) (by omega) ((r_st k hk).1.trans hK) rfl ?_
          refine j_iconst (x := 2) (t := 108) C d_M_canOf_107 rfl rfl ?_
          refine j_icmp_ge (tgt := 167) (t := 111) C d_M_canOf_108 (by decide) rfl (fun h108 => absurd h108 (by decide)) (fun h108 => ?_)
          refine j_aload_n (i := 0) (t := 112) C d_M_canOf_111 rfl rfl (by first | exact jrv_r | exact jrv_n | exact jrv_f) rfl ?_
          refine j_get (t := 115) C fl_M_58 d_M_canOf_112 hM.1 rfl rfl ?_
          refine j_iload_n (i := 1) (t := 116) C d_M_canOf_115 rfl rfl rfl ?_
          refine j_ld_kd (i := k) (t := 117) C d_M_canOf_116 hM (by first | rfl | simp only [nI_add, nI_mul, nI_1]) (by omega) ((r_st k hk).1.trans hK) rfl ?_
          refine j_if_ne (tgt := 128) (t := 120) C d_M_canOf_117 (by decide) rfl (fun h117 => ?_) (fun h117 => absurd h117 (by decide))
          refine j_iload (t := 130) C d_M_canOf_128 rfl rfl ?_
          refine j_if_eq (tgt := 137) (t := 133) C d_M_canOf_130 (by decide) rfl (fun h130 => absurd h130 (by decide)) (fun h130 => ?_)
          refine j_iconst (x := 2) (t := 134) C d_M_canOf_133 rfl rfl ?_
          refine j_goto (tgt := 138) C d_M_canOf_134 (by decide) ?_
          refine j_aload_n (i := 0) (t := 139) C d_M_canOf_138 rfl rfl (by first | exact jrv_r | exact jrv_n | exact jrv_f) rfl ?_
          refine j_get (t := 142) C fl_M_58 d_M_canOf_139 hM.1 rfl rfl ?_
          refine j_iload_n (i := 1) (t := 143) C d_M_canOf_142 rfl rfl rfl ?_
          refine j_ld_kd (i := k) (t := 144) C d_M_canOf_143 hM (by first | rfl | simp only [nI_add, nI_mul, nI_1]) (by omega) ((r_st k hk).1.trans hK) rfl ?_
          refine j_if_ne (tgt := 155) (t := 147) C d_M_canOf_144 (by decide) rfl (fun h144 => ?_) (fun h144 => absurd h144 (by decide))
          refine j_iload (t := 157) C d_M_canOf_155 rfl rfl ?_
          refine j_if_eq (tgt := 164) (t := 160) C d_M_canOf_157 (by decide) rfl (fun h157 => ?_) (fun h157 => absurd h157 (fun z => z rfl))
          refine j_iconst (x := 0) (t := 165) C d_M_canOf_164 rfl rfl ?_
          refine j_iadd (t := 166) C d_M_canOf_165 rfl ?_
          exact j_iret C d_M_canOf_166 (by first | rfl | exact nar_b) (⟨rfl, by rw [cAt_1 hK hkn, decide_eq_true hs, decide_eq_false hm]; decide⟩) (by omega) (by omega)
        · refine j_aload_n (i := 0) (t := 1) C d_M_canOf_0 rfl rfl (by first | exact jrv_r | exact jrv_n | exact jrv_f) rfl ?_
          refine j_get (t := 4) C fl_M_61 d_M_canOf_1 hM.1 rfl rfl ?_
          refine j_iload_n (i := 1) (t := 5) C d_M_canOf_4 rfl rfl rfl ?_
          refine j_ld_fi (i := k) (t := 6) C d_M_canOf_5 hM (by first | rfl | simp only [nI_add, nI_mul, nI_1]) (by omega) ((r_st k hk).2.1 hk5) rfl ?_
          refine j_istore_n (i := 2) (t := 7) (lv' := [(0, _), (1, _), (2, _)]) C d_M_canOf_6 rfl (by decide) (by decide) rfl rfl ?_
          refine j_aload_n (i := 0) (t := 8) C d_M_canOf_7 rfl rfl (by first | exact jrv_r | exact jrv_n | exact jrv_f) rfl ?_
          refine j_get (t := 11) C fl_M_58 d_M_canOf_8 hM.1 rfl rfl ?_
          refine j_iload_n (i := 1) (t := 12) C d_M_canOf_11 rfl rfl rfl ?_
          refine j_ld_kd (i := k) (t := 13) C d_M_canOf_12 hM (by first | rfl | simp only [nI_add, nI_mul, nI_1]) (by omega) ((r_st k hk).1.trans hK) rfl ?_
          refine j_iconst (x := 4) (t := 14) C d_M_canOf_13 rfl rfl ?_
          refine j_icmp_ne (tgt := 26) (t := 17) C d_M_canOf_14 (by decide) rfl (fun h14 => ?_) (fun h14 => absurd h14 (by decide))
          refine j_iload_n (i := 2) (t := 27) C d_M_canOf_26 rfl rfl rfl ?_
          refine j_istore_n (i := 3) (t := 28) (lv' := [(0, _), (1, _), (2, _), (3, _)]) C d_M_canOf_27 rfl (by decide) (by decide) rfl rfl ?_
          refine j_aload_n (i := 0) (t := 29) C d_M_canOf_28 rfl rfl (by first | exact jrv_r | exact jrv_n | exact jrv_f) rfl ?_
          refine j_get (t := 32) C fl_M_45 d_M_canOf_29 hM.1 rfl rfl ?_
          refine j_iload_n (i := 2) (t := 33) C d_M_canOf_32 rfl rfl rfl ?_
          refine j_ld_kn (i := g_sc s k) (t := 34) C d_M_canOf_33 hM (by first | rfl | simp only [nI_add, nI_mul, nI_1]) (by omega) (hknM) rfl ?_
          refine j_if_eq (tgt := 46) (t := 37) C d_M_canOf_34 (by decide) rfl (fun h34 => absurd h34 (by decide)) (fun h34 => ?_)
          refine j_aload_n (i := 0) (t := 38) C d_M_canOf_37 rfl rfl (by first | exact jrv_r | exact jrv_n | exact jrv_f) rfl ?_
          refine j_get (t := 41) C fl_M_45 d_M_canOf_38 hM.1 rfl rfl ?_
          refine j_iload_n (i := 3) (t := 42) C d_M_canOf_41 rfl rfl rfl ?_
          refine j_ld_kn (i := g_sc s k) (t := 43) C d_M_canOf_42 hM (by first | rfl | simp only [nI_add, nI_mul, nI_1]) (by omega) (hknM) rfl ?_
          refine j_if_ne (tgt := 63) (t := 46) C d_M_canOf_43 (by decide) rfl (fun h43 => ?_) (fun h43 => absurd h43 (by decide))
          refine j_aload_n (i := 0) (t := 64) C d_M_canOf_63 rfl rfl (by first | exact jrv_r | exact jrv_n | exact jrv_f) rfl ?_
          refine j_get (t := 67) C fl_M_39 d_M_canOf_64 hM.1 rfl rfl ?_
          refine j_iload_n (i := 2) (t := 68) C d_M_canOf_67 rfl rfl rfl ?_
          refine j_ld_ms (i := g_sc s k) (t := 69) C d_M_canOf_68 hM (by first | rfl | simp only [nI_add, nI_mul, nI_1]) (by omega) (hkm) rfl ?_
          refine j_if_le (tgt := 76) (t := 72) C d_M_canOf_69 (by decide) rfl (fun h69 => ?_) (fun h69 => absurd h69 (fun z => z (Int32.not_lt.mp hm)))
          refine j_iconst (x := 0) (t := 77) C d_M_canOf_76 rfl rfl ?_
          refine j_istore (i := 4) (t := 79) (lv' := [(0, _), (1, _), (2, _), (3, _), (4, _)]) C d_M_canOf_77 (by decide) (by decide) rfl rfl ?_
          refine j_aload_n (i := 0) (t := 80) C d_M_canOf_79 rfl rfl (by first | exact jrv_r | exact jrv_n | exact jrv_f) rfl ?_
          refine j_get (t := 83) C fl_M_36 d_M_canOf_80 hM.1 rfl rfl ?_
          refine j_iload_n (i := 2) (t := 84) C d_M_canOf_83 rfl rfl rfl ?_
          refine j_ld_rw (i := g_sc s k) (t := 85) C d_M_canOf_84 hM (by first | rfl | simp only [nI_add, nI_mul, nI_1]) (by omega) (hkr) rfl ?_
          refine j_aload_n (i := 0) (t := 86) C d_M_canOf_85 rfl rfl (by first | exact jrv_r | exact jrv_n | exact jrv_f) rfl ?_
          refine j_get (t := 89) C fl_M_39 d_M_canOf_86 hM.1 rfl rfl ?_
          refine j_iload_n (i := 2) (t := 90) C d_M_canOf_89 rfl rfl rfl ?_
          refine j_ld_ms (i := g_sc s k) (t := 91) C d_M_canOf_90 hM (by first | rfl | simp only [nI_add, nI_mul, nI_1]) (by omega) (hkm) rfl ?_
          refine j_icmp_le (tgt := 98) (t := 94) C d_M_canOf_91 (by decide) rfl (fun h91 => ?_) (fun h91 => absurd h91 (fun z => z (Int32.not_lt.mp hs)))
          refine j_iconst (x := 0) (t := 99) C d_M_canOf_98 rfl rfl ?_
          refine j_istore (i := 5) (t := 101) (lv' := [(0, _), (1, _), (2, _), (3, _), (4, _), (5, _)]) C d_M_canOf_99 (by decide) (by decide) rfl rfl ?_
          refine j_aload_n (i := 0) (t := 102) C d_M_canOf_101 rfl rfl (by first | exact jrv_r | exact jrv_n | exact jrv_f) rfl ?_
          refine j_get (t := 105) C fl_M_58 d_M_canOf_102 hM.1 rfl rfl ?_
          refine j_iload_n (i := 1) (t := 106) C d_M_canOf_105 rfl rfl rfl ?_
          refine j_ld_kd (i := k) (t := 107) C d_M_canOf_106 hM (by first | rfl | simp only [nI_add, nI_mul, nI_1]) (by omega) ((r_st k hk).1.trans hK) rfl ?_
          refine j_iconst (x := 2) (t := 108) C d_M_canOf_107 rfl rfl ?_
          refine j_icmp_ge (tgt := 167) (t := 111) C d_M_canOf_108 (by decide) rfl (fun h108 => absurd h108 (by decide)) (fun h108 => ?_)
          refine j_aload_n (i := 0) (t := 112) C d_M_canOf_111 rfl rfl (by first | exact jrv_r | exact jrv_n | exact jrv_f) rfl ?_
          refine j_get (t := 115) C fl_M_58 d_M_canOf_112 hM.1 rfl rfl ?_
          refine j_iload_n (i := 1) (t := 116) C d_M_canOf_115 rfl rfl rfl ?_
          refine j_ld_kd (i := k) (t := 117) C d_M_canOf_116 hM (by first | rfl | simp only [nI_add, nI_mul, nI_1]) (by omega) ((r_st k hk).1.trans hK) rfl ?_
          refine j_if_ne (tgt := 128) (t := 120) C d_M_canOf_117 (by decide) rfl (fun h117 => ?_) (fun h117 => absurd h117 (by decide))
          refine j_iload (t := 130) C d_M_canOf_128 rfl rfl ?_
          refine j_if_eq (tgt := 137) (t := 133) C d_M_canOf_130 (by decide) rfl (fun h130 => ?_) (fun h130 => absurd h130 (fun z => z rfl))
          refine j_iconst (x := 0) (t := 138) C d_M_canOf_137 rfl rfl ?_
          refine j_aload_n (i := 0) (t := 139) C d_M_canOf_138 rfl rfl (by first | exact jrv_r | exact jrv_n | exact jrv_f) rfl ?_
          refine j_get (t := 142) C fl_M_58 d_M_canOf_139 hM.1 rfl rfl ?_
          refine j_iload_n (i := 1) (t := 143) C d_M_canOf_142 rfl rfl rfl ?_
          refine j_ld_kd (i := k) (t := 144) C d_M_canOf_143 hM (by first | rfl | simp only [nI_add, nI_mul, nI_1]) (by omega) ((r_st k hk).1.trans hK) rfl ?_
          refine j_if_ne (tgt := 155) (t := 147) C d_M_canOf_144 (by decide) rfl (fun h144 => ?_) (fun h144 => absurd h144 (by decide))
          refine j_iload (t := 157) C d_M_canOf_155 rfl rfl ?_
          refine j_if_eq (tgt := 164) (t := 160) C d_M_canOf_157 (by decide) rfl (fun h157 => ?_) (fun h157 => absurd h157 (fun z => z rfl))
          refine j_iconst (x := 0) (t := 165) C d_M_canOf_164 rfl rfl ?_
          refine j_iadd (t := 166) C d_M_canOf_165 rfl ?_
          exact j_iret C d_M_canOf_166 (by first | rfl | exact nar_b) (⟨rfl, by rw [cAt_1 hK hkn, decide_eq_false hs, decide_eq_false hm]; decide⟩) (by omega) (by omega)
  · obtain ⟨-, P, N1, eP, eN, hoP, hoM, hPN, hN1, hlt⟩ := st_2 hW hk hK
    cases hkn : g_kn s (g_sc s k) with
    | false =>
      rw [hkn] at hknM
      refine j_aload_n (i := 0) (t := 1) C d_M_canOf_0 rfl rfl (by first | exact jrv_r | exact jrv_n | exact jrv_f) rfl ?_
      refine j_get (t := 4) C fl_M_61 d_M_canOf_1 hM.1 rfl rfl ?_
      refine j_iload_n (i := 1) (t := 5) C d_M_canOf_4 rfl rfl rfl ?_
      refine j_ld_fi (i := k) (t := 6) C d_M_canOf_5 hM (by first | rfl | simp only [nI_add, nI_mul, nI_1]) (by omega) ((r_st k hk).2.1 hk5) rfl ?_
      refine j_istore_n (i := 2) (t := 7) (lv' := [(0, _), (1, _), (2, _)]) C d_M_canOf_6 rfl (by decide) (by decide) rfl rfl ?_
      refine j_aload_n (i := 0) (t := 8) C d_M_canOf_7 rfl rfl (by first | exact jrv_r | exact jrv_n | exact jrv_f) rfl ?_
      refine j_get (t := 11) C fl_M_58 d_M_canOf_8 hM.1 rfl rfl ?_
      refine j_iload_n (i := 1) (t := 12) C d_M_canOf_11 rfl rfl rfl ?_
      refine j_ld_kd (i := k) (t := 13) C d_M_canOf_12 hM (by first | rfl | simp only [nI_add, nI_mul, nI_1]) (by omega) ((r_st k hk).1.trans hK) rfl ?_
      refine j_iconst (x := 4) (t := 14) C d_M_canOf_13 rfl rfl ?_
      refine j_icmp_ne (tgt := 26) (t := 17) C d_M_canOf_14 (by decide) rfl (fun h14 => ?_) (fun h14 => absurd h14 (by decide))
      refine j_iload_n (i := 2) (t := 27) C d_M_canOf_26 rfl rfl rfl ?_
      refine j_istore_n (i := 3) (t := 28) (lv' := [(0, _), (1, _), (2, _), (3, _)]) C d_M_canOf_27 rfl (by decide) (by decide) rfl rfl ?_
      refine j_aload_n (i := 0) (t := 29) C d_M_canOf_28 rfl rfl (by first | exact jrv_r | exact jrv_n | exact jrv_f) rfl ?_
      refine j_get (t := 32) C fl_M_45 d_M_canOf_29 hM.1 rfl rfl ?_
      refine j_iload_n (i := 2) (t := 33) C d_M_canOf_32 rfl rfl rfl ?_
      refine j_ld_kn (i := g_sc s k) (t := 34) C d_M_canOf_33 hM (by first | rfl | simp only [nI_add, nI_mul, nI_1]) (by omega) (hknM) rfl ?_
      refine j_if_eq (tgt := 46) (t := 37) C d_M_canOf_34 (by decide) rfl (fun h34 => ?_) (fun h34 => absurd h34 (fun z => z rfl))
      refine j_aload_n (i := 0) (t := 47) C d_M_canOf_46 rfl rfl (by first | exact jrv_r | exact jrv_n | exact jrv_f) rfl ?_
      refine j_get (t := 50) C fl_M_58 d_M_canOf_47 hM.1 rfl rfl ?_
      refine j_iload_n (i := 1) (t := 51) C d_M_canOf_50 rfl rfl rfl ?_
      refine j_ld_kd (i := k) (t := 52) C d_M_canOf_51 hM (by first | rfl | simp only [nI_add, nI_mul, nI_1]) (by omega) ((r_st k hk).1.trans hK) rfl ?_
      refine j_iconst (x := 2) (t := 53) C d_M_canOf_52 rfl rfl ?_
      refine j_icmp_ge (tgt := 60) (t := 56) C d_M_canOf_53 (by decide) rfl (fun h53 => ?_) (fun h53 => absurd h53 (by decide))
      refine j_bipush (x := nI 7) (t := 62) C d_M_canOf_60 rfl rfl ?_
      exact j_iret C d_M_canOf_62 (by first | rfl | exact nar_b) (⟨rfl, by rw [cAt_u2 (Or.inl hK) hkn]; rfl⟩) (by omega) (by omega)
    | true =>
      rw [hkn] at hknM
      have hknn := (r_col _ hsc).2.2.2.2.2 hkn
      have hkr := hknn.1
      have hkm := hknn.2.1
      obtain ⟨q1, q2, q3, q4, -⟩ := (wcol _ hsc).2.2.2.2 hkn
      have tail : ∀ (p : jv × jv) (u : Bool) (a4 a5 : Int32), g_mo s (g_sc s k) = some p → cAt s k = trS (outK (g_lit s) P N1 p.1 p.2 (g_ec s (g_sc s k)) (g_ef s (g_sc s k))) (inK (g_lit s) P p.1 p.2 (g_ec s (g_sc s k)) (g_ef s (g_sc s k)) N1) u → J X (9, 99) (jQ X (fun r w' => w' = w ∧ r = some (.int (cAt s k))) 0 0) w 0 0 211 [(0, .ref o), (1, .int (nI k)), (2, .int (nI (g_sc s k))), (3, .int (nI (g_sc s k))), (4, .int a4), (5, .int a5), (6, .int (bif u then 4 else 0))] [] := by
        intro p u a4 a5 hmo hcu
        have fin : ∀ (y n : Bool), y = (inK (g_lit s) P p.1 p.2 (g_ec s (g_sc s k)) (g_ef s (g_sc s k)) N1) → n = (outK (g_lit s) P N1 p.1 p.2 (g_ec s (g_sc s k)) (g_ef s (g_sc s k))) → J X (9, 99) (jQ X (fun r w' => w' = w ∧ r = some (.int (cAt s k))) 0 0) w 0 0 413 [(0, .ref o), (1, .int (nI k)), (2, .int (nI (g_sc s k))), (3, .int (nI (g_sc s k))), (4, .int a4), (5, .int a5), (6, .int (bif u then 4 else 0)), (7, .int (bI y)), (8, .int (bI n))] [] := by
          intro y n hy hn
          refine j_iload (t := 415) C d_M_canOf_413 rfl rfl ?_
          refine j_iload (t := 417) C d_M_canOf_415 rfl rfl ?_
          refine j_if_eq (tgt := 424) (t := 420) C d_M_canOf_417 (by decide) rfl (fun h417 => ?_) (fun h417 => ?_)
          · refine j_iconst (x := 0) (t := 425) C d_M_canOf_424 rfl rfl ?_
            refine j_iadd (t := 426) C d_M_canOf_425 rfl ?_
            refine j_iload (t := 428) C d_M_canOf_426 rfl rfl ?_
            refine j_if_eq (tgt := 435) (t := 431) C d_M_canOf_428 (by decide) rfl (fun h428 => ?_) (fun h428 => ?_)
            · refine j_iconst (x := 0) (t := 436) C d_M_canOf_435 rfl rfl ?_
              refine j_iadd (t := 437) C d_M_canOf_436 rfl ?_
              exact j_iret C d_M_canOf_437 (by first | rfl | exact nar_b) (⟨rfl, by simp only [bI_0, Bool.not_eq_false] at h417 h428; rw [hcu, ← hy, ← hn, trS_sum, h417, h428]; rfl⟩) (by omega) (by omega)
            · refine j_iconst (x := 1) (t := 432) C d_M_canOf_431 rfl rfl ?_
              refine j_goto (tgt := 436) C d_M_canOf_432 (by decide) ?_
              refine j_iadd (t := 437) C d_M_canOf_436 rfl ?_
              exact j_iret C d_M_canOf_437 (by first | rfl | exact nar_b) (⟨rfl, by simp only [bI_0, Bool.not_eq_false] at h417 h428; rw [hcu, ← hy, ← hn, trS_sum, h417, h428]; rfl⟩) (by omega) (by omega)
          · refine j_iconst (x := 2) (t := 421) C d_M_canOf_420 rfl rfl ?_
            refine j_goto (tgt := 425) C d_M_canOf_421 (by decide) ?_
            refine j_iadd (t := 426) C d_M_canOf_425 rfl ?_
            refine j_iload (t := 428) C d_M_canOf_426 rfl rfl ?_
            refine j_if_eq (tgt := 435) (t := 431) C d_M_canOf_428 (by decide) rfl (fun h428 => ?_) (fun h428 => ?_)
            · refine j_iconst (x := 0) (t := 436) C d_M_canOf_435 rfl rfl ?_
              refine j_iadd (t := 437) C d_M_canOf_436 rfl ?_
              exact j_iret C d_M_canOf_437 (by first | rfl | exact nar_b) (⟨rfl, by simp only [bI_0, Bool.not_eq_false] at h417 h428; rw [hcu, ← hy, ← hn, trS_sum, h417, h428]; rfl⟩) (by omega) (by omega)
            · refine j_iconst (x := 1) (t := 432) C d_M_canOf_431 rfl rfl ?_
              refine j_goto (tgt := 436) C d_M_canOf_432 (by decide) ?_
              refine j_iadd (t := 437) C d_M_canOf_436 rfl ?_
              exact j_iret C d_M_canOf_437 (by first | rfl | exact nar_b) (⟨rfl, by simp only [bI_0, Bool.not_eq_false] at h417 h428; rw [hcu, ← hy, ← hn, trS_sum, h417, h428]; rfl⟩) (by omega) (by omega)
        have nos : ∀ (y : Bool) (a8 : Int32), y = (inK (g_lit s) P p.1 p.2 (g_ec s (g_sc s k)) (g_ef s (g_sc s k)) N1) → J X (9, 99) (jQ X (fun r w' => w' = w ∧ r = some (.int (cAt s k))) 0 0) w 0 0 341 [(0, .ref o), (1, .int (nI k)), (2, .int (nI (g_sc s k))), (3, .int (nI (g_sc s k))), (4, .int a4), (5, .int a5), (6, .int (bif u then 4 else 0)), (7, .int (bI y)), (8, .int a8)] [] := by
          intro y a8 hy
          refine j_aload_n (i := 0) (t := 342) C d_M_canOf_341 rfl rfl (by first | exact jrv_r | exact jrv_n | exact jrv_f) rfl ?_
          refine j_get (t := 345) C fl_M_58 d_M_canOf_342 hM.1 rfl rfl ?_
          refine j_iload_n (i := 1) (t := 346) C d_M_canOf_345 rfl rfl rfl ?_
          refine j_ld_kd (i := k) (t := 347) C d_M_canOf_346 hM (by first | rfl | simp only [nI_add, nI_mul, nI_1]) (by omega) ((r_st k hk).1.trans hK) rfl ?_
          refine j_iconst (x := 4) (t := 348) C d_M_canOf_347 rfl rfl ?_
          refine j_icmp_ne (tgt := 369) (t := 351) C d_M_canOf_348 (by decide) rfl (fun h348 => ?_) (fun h348 => absurd h348 (by decide))
          refine j_aload_n (i := 0) (t := 370) C d_M_canOf_369 rfl rfl (by first | exact jrv_r | exact jrv_n | exact jrv_f) rfl ?_
          refine j_get (t := 373) C fl_M_58 d_M_canOf_370 hM.1 rfl rfl ?_
          refine j_iload_n (i := 1) (t := 374) C d_M_canOf_373 rfl rfl rfl ?_
          refine j_ld_kd (i := k) (t := 375) C d_M_canOf_374 hM (by first | rfl | simp only [nI_add, nI_mul, nI_1]) (by omega) ((r_st k hk).1.trans hK) rfl ?_
          refine j_iconst (x := 3) (t := 376) C d_M_canOf_375 rfl rfl ?_
          refine j_icmp_ne (tgt := 406) (t := 379) C d_M_canOf_376 (by decide) rfl (fun h376 => ?_) (fun h376 => absurd h376 (by decide))
          refine j_aload_n (i := 0) (t := 407) C d_M_canOf_406 rfl rfl (by first | exact jrv_r | exact jrv_n | exact jrv_f) rfl ?_
          refine j_iload_n (i := 1) (t := 408) C d_M_canOf_407 rfl rfl rfl ?_
          refine j_callV (As := [_]) (t := 411) C (c_M_mayBeNone _ o q m s k p) d_M_canOf_408 jb_M_mayBeNone ml_M_172 jv_M_mayBeNone hM.1 rfl rfl rfl (Nat.le_of_ble_eq_true rfl) (by decide) (by omega) (by omega) (⟨⟨rfl, hM, hR, hW⟩, hk, hK, hkn, hmo⟩) rfl (fun r408 w408 p408 => ?_)
          obtain ⟨rfl, rfl⟩ := p408
          dsimp only [jst]
          rw [hoP, hoM]
          refine j_istore (i := 8) (t := 413) (lv' := [(0, _), (1, _), (2, _), (3, _), (4, _), (5, _), (6, _), (7, _), (8, _)]) C d_M_canOf_411 (by decide) (by decide) rfl rfl ?_
          exact fin y _ hy rfl
        have loop : ∀ (qq n : Nat) (b : Bool), N1 + 1 ≤ n + qq → n ≤ N1 → b = inK (g_lit s) P p.1 p.2 (g_ec s (g_sc s k)) (g_ef s (g_sc s k)) n → J X (9, 99) (jQ X (fun r w' => w' = w ∧ r = some (.int (cAt s k))) 0 0) w 0 0 280 [(0, .ref o), (1, .int (nI k)), (2, .int (nI (g_sc s k))), (3, .int (nI (g_sc s k))), (4, .int a4), (5, .int a5), (6, .int (bif u then 4 else 0)), (7, .int (bI b)), (8, .int (nI n))] [] := by
          intro qq
          induction qq with
          | zero => intro n b h1 h2; omega
          | succ qq ih =>
            intro n b hn1 hn2 hb
            refine j_iload (t := 282) C d_M_canOf_280 rfl rfl ?_
            refine j_aload_n (i := 0) (t := 283) C d_M_canOf_282 rfl rfl (by first | exact jrv_r | exact jrv_n | exact jrv_f) rfl ?_
            refine j_get (t := 286) C fl_M_70 d_M_canOf_283 hM.1 rfl rfl ?_
            refine j_iload_n (i := 1) (t := 287) C d_M_canOf_286 rfl rfl rfl ?_
            refine j_ld_mn (i := k) (t := 288) C d_M_canOf_287 hM (by first | rfl | simp only [nI_add, nI_mul, nI_1]) (by omega) ((r_st k hk).2.2.2.2.trans eN) rfl ?_
            refine j_icmp_ge (tgt := 341) (t := 291) C d_M_canOf_288 (by decide) rfl (fun h288 => ?_) (fun h288 => ?_)
            · exact nos b _ (by rw [nI_leI (by omega) (by omega)] at h288; rw [hb, show n = N1 by omega])
            · rw [nI_leI (by omega) (by omega)] at h288
              refine j_aload_n (i := 0) (t := 292) C d_M_canOf_291 rfl rfl (by first | exact jrv_r | exact jrv_n | exact jrv_f) rfl ?_
              refine j_get (t := 295) C fl_M_58 d_M_canOf_292 hM.1 rfl rfl ?_
              refine j_iload_n (i := 1) (t := 296) C d_M_canOf_295 rfl rfl rfl ?_
              refine j_ld_kd (i := k) (t := 297) C d_M_canOf_296 hM (by first | rfl | simp only [nI_add, nI_mul, nI_1]) (by omega) ((r_st k hk).1.trans hK) rfl ?_
              refine j_iconst (x := 2) (t := 298) C d_M_canOf_297 rfl rfl ?_
              refine j_icmp_ne (tgt := 341) (t := 301) C d_M_canOf_298 (by decide) rfl (fun h298 => absurd h298 (by decide)) (fun h298 => ?_)
              refine j_iload (t := 303) C d_M_canOf_301 rfl rfl ?_
              refine j_if_ne (tgt := 328) (t := 306) C d_M_canOf_303 (by decide) rfl (fun h303 => ?_) (fun h303 => ?_)
              · refine j_iconst (x := 1) (t := 329) C d_M_canOf_328 rfl rfl ?_
                refine j_goto (tgt := 333) C d_M_canOf_329 (by decide) ?_
                refine j_istore (i := 7) (t := 335) (lv' := [(0, _), (1, _), (2, _), (3, _), (4, _), (5, _), (6, _), (7, _), (8, _)]) C d_M_canOf_333 (by decide) (by decide) rfl rfl ?_
                refine j_iinc (y := _ + 1) (t := 338) (lv' := [(0, _), (1, _), (2, _), (3, _), (4, _), (5, _), (6, _), (7, _), (8, _)]) C d_M_canOf_335 rfl rfl (by decide) (by decide) rfl rfl ?_
                refine j_goto (tgt := 280) C d_M_canOf_338 (by decide) ?_
                rw [nI_1]
                first
                | (rw [bI_0, Bool.not_eq_false] at h303; exact ih (n + 1) true (by omega) (by omega) (inK_0 (hb.symm.trans h303)).symm)
                | (rw [bI_0, Bool.not_eq_false] at h325; exact ih (n + 1) true (by omega) (by omega) (inK_true (i := n) (by omega) h325).symm)
                | (rw [bI_0] at h303 h325; exact ih (n + 1) false (by omega) (by omega) (inK_next (hb.symm.trans h303) h325).symm)
              · refine j_aload_n (i := 0) (t := 307) C d_M_canOf_306 rfl rfl (by first | exact jrv_r | exact jrv_n | exact jrv_f) rfl ?_
                refine j_iload_n (i := 2) (t := 308) C d_M_canOf_307 rfl rfl rfl ?_
                refine j_iconst (x := 0) (t := 309) C d_M_canOf_308 rfl rfl ?_
                refine j_sipush (x := nI 17632) (t := 312) C d_M_canOf_309 rfl rfl ?_
                refine j_aload_n (i := 0) (t := 313) C d_M_canOf_312 rfl rfl (by first | exact jrv_r | exact jrv_n | exact jrv_f) rfl ?_
                refine j_get (t := 316) C fl_M_67 d_M_canOf_313 hM.1 rfl rfl ?_
                refine j_iload_n (i := 1) (t := 317) C d_M_canOf_316 rfl rfl rfl ?_
                refine j_ld_ot (i := k) (t := 318) C d_M_canOf_317 hM (by first | rfl | simp only [nI_add, nI_mul, nI_1]) (by omega) ((r_st k hk).2.2.2.1.trans eP) rfl ?_
                refine j_iadd (t := 319) C d_M_canOf_318 rfl ?_
                refine j_iload (t := 321) C d_M_canOf_319 rfl rfl ?_
                refine j_iadd (t := 322) C d_M_canOf_321 rfl ?_
                rw [nI_add, nI_add, Nat.add_assoc]
                refine j_callV (As := [_, _, _]) (t := 325) C (c_M_may _ o q m s (g_sc s k) (17632 + (P + n)) 0 (g_lit s (P + n)) p) d_M_canOf_322 jb_M_may ml_M_166 jv_M_may hM.1 rfl rfl rfl (Nat.le_of_ble_eq_true rfl) (by decide) (by omega) (by omega) (⟨⟨rfl, hM, hR, hW⟩, hsc, hkn, hmo, ⟨by decide, by decide⟩, lit_ok hR hW (by omega) (hlt (P + n) (by omega) (by omega))⟩) rfl (fun r322 w322 p322 => ?_)
                obtain ⟨rfl, rfl⟩ := p322
                dsimp only [jst]
                rw [← mH_cmL]
                refine j_if_eq (tgt := 332) (t := 328) C d_M_canOf_325 (by decide) rfl (fun h325 => ?_) (fun h325 => ?_)
                · refine j_iconst (x := 0) (t := 333) C d_M_canOf_332 rfl rfl ?_
                  refine j_istore (i := 7) (t := 335) (lv' := [(0, _), (1, _), (2, _), (3, _), (4, _), (5, _), (6, _), (7, _), (8, _)]) C d_M_canOf_333 (by decide) (by decide) rfl rfl ?_
                  refine j_iinc (y := _ + 1) (t := 338) (lv' := [(0, _), (1, _), (2, _), (3, _), (4, _), (5, _), (6, _), (7, _), (8, _)]) C d_M_canOf_335 rfl rfl (by decide) (by decide) rfl rfl ?_
                  refine j_goto (tgt := 280) C d_M_canOf_338 (by decide) ?_
                  rw [nI_1]
                  first
                  | (rw [bI_0, Bool.not_eq_false] at h303; exact ih (n + 1) true (by omega) (by omega) (inK_0 (hb.symm.trans h303)).symm)
                  | (rw [bI_0, Bool.not_eq_false] at h325; exact ih (n + 1) true (by omega) (by omega) (inK_true (i := n) (by omega) h325).symm)
                  | (rw [bI_0] at h303 h325; exact ih (n + 1) false (by omega) (by omega) (inK_next (hb.symm.trans h303) h325).symm)
                · refine j_iconst (x := 1) (t := 329) C d_M_canOf_328 rfl rfl ?_
                  refine j_goto (tgt := 333) C d_M_canOf_329 (by decide) ?_
                  refine j_istore (i := 7) (t := 335) (lv' := [(0, _), (1, _), (2, _), (3, _), (4, _), (5, _), (6, _), (7, _), (8, _)]) C d_M_canOf_333 (by decide) (by decide) rfl rfl ?_
                  refine j_iinc (y := _ + 1) (t := 338) (lv' := [(0, _), (1, _), (2, _), (3, _), (4, _), (5, _), (6, _), (7, _), (8, _)]) C d_M_canOf_335 rfl rfl (by decide) (by decide) rfl rfl ?_
                  refine j_goto (tgt := 280) C d_M_canOf_338 (by decide) ?_
                  rw [nI_1]
                  first
                  | (rw [bI_0, Bool.not_eq_false] at h303; exact ih (n + 1) true (by omega) (by omega) (inK_0 (hb.symm.trans h303)).symm)
                  | (rw [bI_0, Bool.not_eq_false] at h325; exact ih (n + 1) true (by omega) (by omega) (inK_true (i := n) (by omega) h325).symm)
                  | (rw [bI_0] at h303 h325; exact ih (n + 1) false (by omega) (by omega) (inK_next (hb.symm.trans h303) h325).symm)
        refine j_aload_n (i := 0) (t := 212) C d_M_canOf_211 rfl rfl (by first | exact jrv_r | exact jrv_n | exact jrv_f) rfl ?_
        refine j_get (t := 215) C fl_M_58 d_M_canOf_212 hM.1 rfl rfl ?_
        refine j_iload_n (i := 1) (t := 216) C d_M_canOf_215 rfl rfl rfl ?_
        refine j_ld_kd (i := k) (t := 217) C d_M_canOf_216 hM (by first | rfl | simp only [nI_add, nI_mul, nI_1]) (by omega) ((r_st k hk).1.trans hK) rfl ?_
        refine j_iconst (x := 4) (t := 218) C d_M_canOf_217 rfl rfl ?_
        refine j_icmp_ne (tgt := 236) (t := 221) C d_M_canOf_218 (by decide) rfl (fun h218 => ?_) (fun h218 => absurd h218 (by decide))
        refine j_aload_n (i := 0) (t := 237) C d_M_canOf_236 rfl rfl (by first | exact jrv_r | exact jrv_n | exact jrv_f) rfl ?_
        refine j_get (t := 240) C fl_M_58 d_M_canOf_237 hM.1 rfl rfl ?_
        refine j_iload_n (i := 1) (t := 241) C d_M_canOf_240 rfl rfl rfl ?_
        refine j_ld_kd (i := k) (t := 242) C d_M_canOf_241 hM (by first | rfl | simp only [nI_add, nI_mul, nI_1]) (by omega) ((r_st k hk).1.trans hK) rfl ?_
        refine j_iconst (x := 3) (t := 243) C d_M_canOf_242 rfl rfl ?_
        refine j_icmp_ne (tgt := 274) (t := 246) C d_M_canOf_243 (by decide) rfl (fun h243 => ?_) (fun h243 => absurd h243 (by decide))
        refine j_iconst (x := 0) (t := 275) C d_M_canOf_274 rfl rfl ?_
        refine j_istore (i := 7) (t := 277) (lv' := [(0, _), (1, _), (2, _), (3, _), (4, _), (5, _), (6, _), (7, _)]) C d_M_canOf_275 (by decide) (by decide) rfl rfl ?_
        refine j_iconst (x := 0) (t := 278) C d_M_canOf_277 rfl rfl ?_
        refine j_istore (i := 8) (t := 280) (lv' := [(0, _), (1, _), (2, _), (3, _), (4, _), (5, _), (6, _), (7, _), (8, _)]) C d_M_canOf_278 (by decide) (by decide) rfl rfl ?_
        exact loop (N1 + 1) 0 false (by omega) (Nat.zero_le _) rfl
      by_cases hs : g_km s (g_sc s k) < g_kr s (g_sc s k)
      · by_cases hm : 0 < g_km s (g_sc s k)
        · refine j_aload_n (i := 0) (t := 1) C d_M_canOf_0 rfl rfl (by first | exact jrv_r | exact jrv_n | exact jrv_f) rfl ?_
          refine j_get (t := 4) C fl_M_61 d_M_canOf_1 hM.1 rfl rfl ?_
          refine j_iload_n (i := 1) (t := 5) C d_M_canOf_4 rfl rfl rfl ?_
          refine j_ld_fi (i := k) (t := 6) C d_M_canOf_5 hM (by first | rfl | simp only [nI_add, nI_mul, nI_1]) (by omega) ((r_st k hk).2.1 hk5) rfl ?_
          refine j_istore_n (i := 2) (t := 7) (lv' := [(0, _), (1, _), (2, _)]) C d_M_canOf_6 rfl (by decide) (by decide) rfl rfl ?_
          refine j_aload_n (i := 0) (t := 8) C d_M_canOf_7 rfl rfl (by first | exact jrv_r | exact jrv_n | exact jrv_f) rfl ?_
          refine j_get (t := 11) C fl_M_58 d_M_canOf_8 hM.1 rfl rfl ?_
          refine j_iload_n (i := 1) (t := 12) C d_M_canOf_11 rfl rfl rfl ?_
          refine j_ld_kd (i := k) (t := 13) C d_M_canOf_12 hM (by first | rfl | simp only [nI_add, nI_mul, nI_1]) (by omega) ((r_st k hk).1.trans hK) rfl ?_
          refine j_iconst (x := 4) (t := 14) C d_M_canOf_13 rfl rfl ?_
          refine j_icmp_ne (tgt := 26) (t := 17) C d_M_canOf_14 (by decide) rfl (fun h14 => ?_) (fun h14 => absurd h14 (by decide))
          refine j_iload_n (i := 2) (t := 27) C d_M_canOf_26 rfl rfl rfl ?_
          refine j_istore_n (i := 3) (t := 28) (lv' := [(0, _), (1, _), (2, _), (3, _)]) C d_M_canOf_27 rfl (by decide) (by decide) rfl rfl ?_
          refine j_aload_n (i := 0) (t := 29) C d_M_canOf_28 rfl rfl (by first | exact jrv_r | exact jrv_n | exact jrv_f) rfl ?_
          refine j_get (t := 32) C fl_M_45 d_M_canOf_29 hM.1 rfl rfl ?_
          refine j_iload_n (i := 2) (t := 33) C d_M_canOf_32 rfl rfl rfl ?_
          refine j_ld_kn (i := g_sc s k) (t := 34) C d_M_canOf_33 hM (by first | rfl | simp only [nI_add, nI_mul, nI_1]) (by omega) (hknM) rfl ?_
          refine j_if_eq (tgt := 46) (t := 37) C d_M_canOf_34 (by decide) rfl (fun h34 => absurd h34 (by decide)) (fun h34 => ?_)
          refine j_aload_n (i := 0) (t := 38) C d_M_canOf_37 rfl rfl (by first | exact jrv_r | exact jrv_n | exact jrv_f) rfl ?_
          refine j_get (t := 41) C fl_M_45 d_M_canOf_38 hM.1 rfl rfl ?_
          refine j_iload_n (i := 3) (t := 42) C d_M_canOf_41 rfl rfl rfl ?_
          refine j_ld_kn (i := g_sc s k) (t := 43) C d_M_canOf_42 hM (by first | rfl | simp only [nI_add, nI_mul, nI_1]) (by omega) (hknM) rfl ?_
          refine j_if_ne (tgt := 63) (t := 46) C d_M_canOf_43 (by decide) rfl (fun h43 => ?_) (fun h43 => absurd h43 (by decide))
          refine j_aload_n (i := 0) (t := 64) C d_M_canOf_63 rfl rfl (by first | exact jrv_r | exact jrv_n | exact jrv_f) rfl ?_
          refine j_get (t := 67) C fl_M_39 d_M_canOf_64 hM.1 rfl rfl ?_
          refine j_iload_n (i := 2) (t := 68) C d_M_canOf_67 rfl rfl rfl ?_
          refine j_ld_ms (i := g_sc s k) (t := 69) C d_M_canOf_68 hM (by first | rfl | simp only [nI_add, nI_mul, nI_1]) (by omega) (hkm) rfl ?_
          refine j_if_le (tgt := 76) (t := 72) C d_M_canOf_69 (by decide) rfl (fun h69 => absurd h69 (Int32.not_le.mpr hm)) (fun h69 => ?_)
          refine j_iconst (x := 1) (t := 73) C d_M_canOf_72 rfl rfl ?_
          refine j_goto (tgt := 77) C d_M_canOf_73 (by decide) ?_
          refine j_istore (i := 4) (t := 79) (lv' := [(0, _), (1, _), (2, _), (3, _), (4, _)]) C d_M_canOf_77 (by decide) (by decide) rfl rfl ?_
          refine j_aload_n (i := 0) (t := 80) C d_M_canOf_79 rfl rfl (by first | exact jrv_r | exact jrv_n | exact jrv_f) rfl ?_
          refine j_get (t := 83) C fl_M_36 d_M_canOf_80 hM.1 rfl rfl ?_
          refine j_iload_n (i := 2) (t := 84) C d_M_canOf_83 rfl rfl rfl ?_
          refine j_ld_rw (i := g_sc s k) (t := 85) C d_M_canOf_84 hM (by first | rfl | simp only [nI_add, nI_mul, nI_1]) (by omega) (hkr) rfl ?_
          refine j_aload_n (i := 0) (t := 86) C d_M_canOf_85 rfl rfl (by first | exact jrv_r | exact jrv_n | exact jrv_f) rfl ?_
          refine j_get (t := 89) C fl_M_39 d_M_canOf_86 hM.1 rfl rfl ?_
          refine j_iload_n (i := 2) (t := 90) C d_M_canOf_89 rfl rfl rfl ?_
          refine j_ld_ms (i := g_sc s k) (t := 91) C d_M_canOf_90 hM (by first | rfl | simp only [nI_add, nI_mul, nI_1]) (by omega) (hkm) rfl ?_
          refine j_icmp_le (tgt := 98) (t := 94) C d_M_canOf_91 (by decide) rfl (fun h91 => absurd h91 (Int32.not_le.mpr hs)) (fun h91 => ?_)
          refine j_iconst (x := 1) (t := 95) C d_M_canOf_94 rfl rfl ?_
          refine j_goto (tgt := 99) C d_M_canOf_95 (by decide) ?_
          refine j_istore (i := 5) (t := 101) (lv' := [(0, _), (1, _), (2, _), (3, _), (4, _), (5, _)]) C d_M_canOf_99 (by decide) (by decide) rfl rfl ?_
          refine j_aload_n (i := 0) (t := 102) C d_M_canOf_101 rfl rfl (by first | exact jrv_r | exact jrv_n | exact jrv_f) rfl ?_
          refine j_get (t := 105) C fl_M_58 d_M_canOf_102 hM.1 rfl rfl ?_
          refine j_iload_n (i := 1) (t := 106) C d_M_canOf_105 rfl rfl rfl ?_
          refine j_ld_kd (i := k) (t := 107) C d_M_canOf_106 hM (by first | rfl | simp only [nI_add, nI_mul, nI_1]) (by omega) ((r_st k hk).1.trans hK) rfl ?_
          refine j_iconst (x := 2) (t := 108) C d_M_canOf_107 rfl rfl ?_
          refine j_icmp_ge (tgt := 167) (t := 111) C d_M_canOf_108 (by decide) rfl (fun h108 => ?_) (fun h108 => absurd h108 (by decide))
          refine j_iload (t := 169) C d_M_canOf_167 rfl rfl ?_
          refine j_if_ne (tgt := 181) (t := 172) C d_M_canOf_169 (by decide) rfl (fun h169 => ?_) (fun h169 => absurd h169 (by decide))
          refine j_iconst (x := 4) (t := 182) C d_M_canOf_181 rfl rfl ?_
          refine j_goto (tgt := 186) C d_M_canOf_182 (by decide) ?_
          refine j_istore (i := 6) (t := 188) (lv' := [(0, _), (1, _), (2, _), (3, _), (4, _), (5, _), (6, _)]) C d_M_canOf_186 (by decide) (by decide) rfl rfl ?_
          refine j_iload (t := 190) C d_M_canOf_188 rfl rfl ?_
          refine j_if_eq (tgt := 208) (t := 193) C d_M_canOf_190 (by decide) rfl (fun h190 => absurd h190 (by decide)) (fun h190 => ?_)
          refine j_aload_n (i := 0) (t := 194) C d_M_canOf_193 rfl rfl (by first | exact jrv_r | exact jrv_n | exact jrv_f) rfl ?_
          refine j_get (t := 197) C fl_M_36 d_M_canOf_194 hM.1 rfl rfl ?_
          refine j_iload_n (i := 3) (t := 198) C d_M_canOf_197 rfl rfl rfl ?_
          refine j_ld_rw (i := g_sc s k) (t := 199) C d_M_canOf_198 hM (by first | rfl | simp only [nI_add, nI_mul, nI_1]) (by omega) (hkr) rfl ?_
          refine j_aload_n (i := 0) (t := 200) C d_M_canOf_199 rfl rfl (by first | exact jrv_r | exact jrv_n | exact jrv_f) rfl ?_
          refine j_get (t := 203) C fl_M_39 d_M_canOf_200 hM.1 rfl rfl ?_
          refine j_iload_n (i := 3) (t := 204) C d_M_canOf_203 rfl rfl rfl ?_
          refine j_ld_ms (i := g_sc s k) (t := 205) C d_M_canOf_204 hM (by first | rfl | simp only [nI_add, nI_mul, nI_1]) (by omega) (hkm) rfl ?_
          refine j_icmp_ne (tgt := 211) (t := 208) C d_M_canOf_205 (by decide) rfl (fun h205 => ?_) (fun h205 => absurd h205 (fun z => absurd hs (by rw [z]; exact Int32.lt_irrefl)))
          obtain ⟨p, hp⟩ := Option.isSome_iff_exists.mp (q4 hs)
          exact tail p true _ _ hp (by rw [cAt_2 hK hkn, hoP, hoM, moL_s hp, moH_s hp, decide_eq_true hs, decide_eq_true hm]; rfl)
        · refine j_aload_n (i := 0) (t := 1) C d_M_canOf_0 rfl rfl (by first | exact jrv_r | exact jrv_n | exact jrv_f) rfl ?_
          refine j_get (t := 4) C fl_M_61 d_M_canOf_1 hM.1 rfl rfl ?_
          refine j_iload_n (i := 1) (t := 5) C d_M_canOf_4 rfl rfl rfl ?_
          refine j_ld_fi (i := k) (t := 6) C d_M_canOf_5 hM (by first | rfl | simp only [nI_add, nI_mul, nI_1]) (by omega) ((r_st k hk).2.1 hk5) rfl ?_
          refine j_istore_n (i := 2) (t := 7) (lv' := [(0, _), (1, _), (2, _)]) C d_M_canOf_6 rfl (by decide) (by decide) rfl rfl ?_
          refine j_aload_n (i := 0) (t := 8) C d_M_canOf_7 rfl rfl (by first | exact jrv_r | exact jrv_n | exact jrv_f) rfl ?_
          refine j_get (t := 11) C fl_M_58 d_M_canOf_8 hM.1 rfl rfl ?_
          refine j_iload_n (i := 1) (t := 12) C d_M_canOf_11 rfl rfl rfl ?_
          refine j_ld_kd (i := k) (t := 13) C d_M_canOf_12 hM (by first | rfl | simp only [nI_add, nI_mul, nI_1]) (by omega) ((r_st k hk).1.trans hK) rfl ?_
          refine j_iconst (x := 4) (t := 14) C d_M_canOf_13 rfl rfl ?_
          refine j_icmp_ne (tgt := 26) (t := 17) C d_M_canOf_14 (by decide) rfl (fun h14 => ?_) (fun h14 => absurd h14 (by decide))
          refine j_iload_n (i := 2) (t := 27) C d_M_canOf_26 rfl rfl rfl ?_
          refine j_istore_n (i := 3) (t := 28) (lv' := [(0, _), (1, _), (2, _), (3, _)]) C d_M_canOf_27 rfl (by decide) (by decide) rfl rfl ?_
          refine j_aload_n (i := 0) (t := 29) C d_M_canOf_28 rfl rfl (by first | exact jrv_r | exact jrv_n | exact jrv_f) rfl ?_
          refine j_get (t := 32) C fl_M_45 d_M_canOf_29 hM.1 rfl rfl ?_
          refine j_iload_n (i := 2) (t := 33) C d_M_canOf_32 rfl rfl rfl ?_
          refine j_ld_kn (i := g_sc s k) (t := 34) C d_M_canOf_33 hM (by first | rfl | simp only [nI_add, nI_mul, nI_1]) (by omega) (hknM) rfl ?_
          refine j_if_eq (tgt := 46) (t := 37) C d_M_canOf_34 (by decide) rfl (fun h34 => absurd h34 (by decide)) (fun h34 => ?_)
          refine j_aload_n (i := 0) (t := 38) C d_M_canOf_37 rfl rfl (by first | exact jrv_r | exact jrv_n | exact jrv_f) rfl ?_
          refine j_get (t := 41) C fl_M_45 d_M_canOf_38 hM.1 rfl rfl ?_
          refine j_iload_n (i := 3) (t := 42) C d_M_canOf_41 rfl rfl rfl ?_
          refine j_ld_kn (i := g_sc s k) (t := 43) C d_M_canOf_42 hM (by first | rfl | simp only [nI_add, nI_mul, nI_1]) (by omega) (hknM) rfl ?_
          refine j_if_ne (tgt := 63) (t := 46) C d_M_canOf_43 (by decide) rfl (fun h43 => ?_) (fun h43 => absurd h43 (by decide))
          refine j_aload_n (i := 0) (t := 64) C d_M_canOf_63 rfl rfl (by first | exact jrv_r | exact jrv_n | exact jrv_f) rfl ?_
          refine j_get (t := 67) C fl_M_39 d_M_canOf_64 hM.1 rfl rfl ?_
          refine j_iload_n (i := 2) (t := 68) C d_M_canOf_67 rfl rfl rfl ?_
          refine j_ld_ms (i := g_sc s k) (t := 69) C d_M_canOf_68 hM (by first | rfl | simp only [nI_add, nI_mul, nI_1]) (by omega) (hkm) rfl ?_
          refine j_if_le (tgt := 76) (t := 72) C d_M_canOf_69 (by decide) rfl (fun h69 => ?_) (fun h69 => absurd h69 (fun z => z (Int32.not_lt.mp hm)))
          refine j_iconst (x := 0) (t := 77) C d_M_canOf_76 rfl rfl ?_
          refine j_istore (i := 4) (t := 79) (lv' := [(0, _), (1, _), (2, _), (3, _), (4, _)]) C d_M_canOf_77 (by decide) (by decide) rfl rfl ?_
          refine j_aload_n (i := 0) (t := 80) C d_M_canOf_79 rfl rfl (by first | exact jrv_r | exact jrv_n | exact jrv_f) rfl ?_
          refine j_get (t := 83) C fl_M_36 d_M_canOf_80 hM.1 rfl rfl ?_
          refine j_iload_n (i := 2) (t := 84) C d_M_canOf_83 rfl rfl rfl ?_
          refine j_ld_rw (i := g_sc s k) (t := 85) C d_M_canOf_84 hM (by first | rfl | simp only [nI_add, nI_mul, nI_1]) (by omega) (hkr) rfl ?_
          refine j_aload_n (i := 0) (t := 86) C d_M_canOf_85 rfl rfl (by first | exact jrv_r | exact jrv_n | exact jrv_f) rfl ?_
          refine j_get (t := 89) C fl_M_39 d_M_canOf_86 hM.1 rfl rfl ?_
          refine j_iload_n (i := 2) (t := 90) C d_M_canOf_89 rfl rfl rfl ?_
          refine j_ld_ms (i := g_sc s k) (t := 91) C d_M_canOf_90 hM (by first | rfl | simp only [nI_add, nI_mul, nI_1]) (by omega) (hkm) rfl ?_
          refine j_icmp_le (tgt := 98) (t := 94) C d_M_canOf_91 (by decide) rfl (fun h91 => absurd h91 (Int32.not_le.mpr hs)) (fun h91 => ?_)
          refine j_iconst (x := 1) (t := 95) C d_M_canOf_94 rfl rfl ?_
          refine j_goto (tgt := 99) C d_M_canOf_95 (by decide) ?_
          refine j_istore (i := 5) (t := 101) (lv' := [(0, _), (1, _), (2, _), (3, _), (4, _), (5, _)]) C d_M_canOf_99 (by decide) (by decide) rfl rfl ?_
          refine j_aload_n (i := 0) (t := 102) C d_M_canOf_101 rfl rfl (by first | exact jrv_r | exact jrv_n | exact jrv_f) rfl ?_
          refine j_get (t := 105) C fl_M_58 d_M_canOf_102 hM.1 rfl rfl ?_
          refine j_iload_n (i := 1) (t := 106) C d_M_canOf_105 rfl rfl rfl ?_
          refine j_ld_kd (i := k) (t := 107) C d_M_canOf_106 hM (by first | rfl | simp only [nI_add, nI_mul, nI_1]) (by omega) ((r_st k hk).1.trans hK) rfl ?_
          refine j_iconst (x := 2) (t := 108) C d_M_canOf_107 rfl rfl ?_
          refine j_icmp_ge (tgt := 167) (t := 111) C d_M_canOf_108 (by decide) rfl (fun h108 => ?_) (fun h108 => absurd h108 (by decide))
          refine j_iload (t := 169) C d_M_canOf_167 rfl rfl ?_
          refine j_if_ne (tgt := 181) (t := 172) C d_M_canOf_169 (by decide) rfl (fun h169 => absurd h169 (fun z => z rfl)) (fun h169 => ?_)
          refine j_aload_n (i := 0) (t := 173) C d_M_canOf_172 rfl rfl (by first | exact jrv_r | exact jrv_n | exact jrv_f) rfl ?_
          refine j_get (t := 176) C fl_M_39 d_M_canOf_173 hM.1 rfl rfl ?_
          refine j_iload_n (i := 3) (t := 177) C d_M_canOf_176 rfl rfl rfl ?_
          refine j_ld_ms (i := g_sc s k) (t := 178) C d_M_canOf_177 hM (by first | rfl | simp only [nI_add, nI_mul, nI_1]) (by omega) (hkm) rfl ?_
          refine j_if_le (tgt := 185) (t := 181) C d_M_canOf_178 (by decide) rfl (fun h178 => ?_) (fun h178 => absurd h178 (fun z => z (Int32.not_lt.mp hm)))
          refine j_iconst (x := 0) (t := 186) C d_M_canOf_185 rfl rfl ?_
          refine j_istore (i := 6) (t := 188) (lv' := [(0, _), (1, _), (2, _), (3, _), (4, _), (5, _), (6, _)]) C d_M_canOf_186 (by decide) (by decide) rfl rfl ?_
          refine j_iload (t := 190) C d_M_canOf_188 rfl rfl ?_
          refine j_if_eq (tgt := 208) (t := 193) C d_M_canOf_190 (by decide) rfl (fun h190 => absurd h190 (by decide)) (fun h190 => ?_)
          refine j_aload_n (i := 0) (t := 194) C d_M_canOf_193 rfl rfl (by first | exact jrv_r | exact jrv_n | exact jrv_f) rfl ?_
          refine j_get (t := 197) C fl_M_36 d_M_canOf_194 hM.1 rfl rfl ?_
          refine j_iload_n (i := 3) (t := 198) C d_M_canOf_197 rfl rfl rfl ?_
          refine j_ld_rw (i := g_sc s k) (t := 199) C d_M_canOf_198 hM (by first | rfl | simp only [nI_add, nI_mul, nI_1]) (by omega) (hkr) rfl ?_
          refine j_aload_n (i := 0) (t := 200) C d_M_canOf_199 rfl rfl (by first | exact jrv_r | exact jrv_n | exact jrv_f) rfl ?_
          refine j_get (t := 203) C fl_M_39 d_M_canOf_200 hM.1 rfl rfl ?_
          refine j_iload_n (i := 3) (t := 204) C d_M_canOf_203 rfl rfl rfl ?_
          refine j_ld_ms (i := g_sc s k) (t := 205) C d_M_canOf_204 hM (by first | rfl | simp only [nI_add, nI_mul, nI_1]) (by omega) (hkm) rfl ?_
          refine j_icmp_ne (tgt := 211) (t := 208) C d_M_canOf_205 (by decide) rfl (fun h205 => ?_) (fun h205 => absurd h205 (fun z => absurd hs (by rw [z]; exact Int32.lt_irrefl)))
          obtain ⟨p, hp⟩ := Option.isSome_iff_exists.mp (q4 hs)
          exact tail p false _ _ hp (by rw [cAt_2 hK hkn, hoP, hoM, moL_s hp, moH_s hp, decide_eq_true hs, decide_eq_false hm]; rfl)
      · by_cases hm : 0 < g_km s (g_sc s k)
        · refine j_aload_n (i := 0) (t := 1) C d_M_canOf_0 rfl rfl (by first | exact jrv_r | exact jrv_n | exact jrv_f) rfl ?_
          refine j_get (t := 4) C fl_M_61 d_M_canOf_1 hM.1 rfl rfl ?_
          refine j_iload_n (i := 1) (t := 5) C d_M_canOf_4 rfl rfl rfl ?_
          refine j_ld_fi (i := k) (t := 6) C d_M_canOf_5 hM (by first | rfl | simp only [nI_add, nI_mul, nI_1]) (by omega) ((r_st k hk).2.1 hk5) rfl ?_
          refine j_istore_n (i := 2) (t := 7) (lv' := [(0, _), (1, _), (2, _)]) C d_M_canOf_6 rfl (by decide) (by decide) rfl rfl ?_
          refine j_aload_n (i := 0) (t := 8) C d_M_canOf_7 rfl rfl (by first | exact jrv_r | exact jrv_n | exact jrv_f) rfl ?_
          refine j_get (t := 11) C fl_M_58 d_M_canOf_8 hM.1 rfl rfl ?_
          refine j_iload_n (i := 1) (t := 12) C d_M_canOf_11 rfl rfl rfl ?_
          refine j_ld_kd (i := k) (t := 13) C d_M_canOf_12 hM (by first | rfl | simp only [nI_add, nI_mul, nI_1]) (by omega) ((r_st k hk).1.trans hK) rfl ?_
          refine j_iconst (x := 4) (t := 14) C d_M_canOf_13 rfl rfl ?_
          refine j_icmp_ne (tgt := 26) (t := 17) C d_M_canOf_14 (by decide) rfl (fun h14 => ?_) (fun h14 => absurd h14 (by decide))
          refine j_iload_n (i := 2) (t := 27) C d_M_canOf_26 rfl rfl rfl ?_
          refine j_istore_n (i := 3) (t := 28) (lv' := [(0, _), (1, _), (2, _), (3, _)]) C d_M_canOf_27 rfl (by decide) (by decide) rfl rfl ?_
          refine j_aload_n (i := 0) (t := 29) C d_M_canOf_28 rfl rfl (by first | exact jrv_r | exact jrv_n | exact jrv_f) rfl ?_
          refine j_get (t := 32) C fl_M_45 d_M_canOf_29 hM.1 rfl rfl ?_
          refine j_iload_n (i := 2) (t := 33) C d_M_canOf_32 rfl rfl rfl ?_
          refine j_ld_kn (i := g_sc s k) (t := 34) C d_M_canOf_33 hM (by first | rfl | simp only [nI_add, nI_mul, nI_1]) (by omega) (hknM) rfl ?_
          refine j_if_eq (tgt := 46) (t := 37) C d_M_canOf_34 (by decide) rfl (fun h34 => absurd h34 (by decide)) (fun h34 => ?_)
          refine j_aload_n (i := 0) (t := 38) C d_M_canOf_37 rfl rfl (by first | exact jrv_r | exact jrv_n | exact jrv_f) rfl ?_
          refine j_get (t := 41) C fl_M_45 d_M_canOf_38 hM.1 rfl rfl ?_
          refine j_iload_n (i := 3) (t := 42) C d_M_canOf_41 rfl rfl rfl ?_
          refine j_ld_kn (i := g_sc s k) (t := 43) C d_M_canOf_42 hM (by first | rfl | simp only [nI_add, nI_mul, nI_1]) (by omega) (hknM) rfl ?_
          refine j_if_ne (tgt := 63) (t := 46) C d_M_canOf_43 (by decide) rfl (fun h43 => ?_) (fun h43 => absurd h43 (by decide))
          refine j_aload_n (i := 0) (t := 64) C d_M_canOf_63 rfl rfl (by first | exact jrv_r | exact jrv_n | exact jrv_f) rfl ?_
          refine j_get (t := 67) C fl_M_39 d_M_canOf_64 hM.1 rfl rfl ?_
          refine j_iload_n (i := 2) (t := 68) C d_M_canOf_67 rfl rfl rfl ?_
          refine j_ld_ms (i := g_sc s k) (t := 69) C d_M_canOf_68 hM (by first | rfl | simp only [nI_add, nI_mul, nI_1]) (by omega) (hkm) rfl ?_
          refine j_if_le (tgt := 76) (t := 72) C d_M_canOf_69 (by decide) rfl (fun h69 => absurd h69 (Int32.not_le.mpr hm)) (fun h69 => ?_)
          refine j_iconst (x := 1) (t := 73) C d_M_canOf_72 rfl rfl ?_
          refine j_goto (tgt := 77) C d_M_canOf_73 (by decide) ?_
          refine j_istore (i := 4) (t := 79) (lv' := [(0, _), (1, _), (2, _), (3, _), (4, _)]) C d_M_canOf_77 (by decide) (by decide) rfl rfl ?_
          refine j_aload_n (i := 0) (t := 80) C d_M_canOf_79 rfl rfl (by first | exact jrv_r | exact jrv_n | exact jrv_f) rfl ?_
          refine j_get (t := 83) C fl_M_36 d_M_canOf_80 hM.1 rfl rfl ?_
          refine j_iload_n (i := 2) (t := 84) C d_M_canOf_83 rfl rfl rfl ?_
          refine j_ld_rw (i := g_sc s k) (t := 85) C d_M_canOf_84 hM (by first | rfl | simp only [nI_add, nI_mul, nI_1]) (by omega) (hkr) rfl ?_
          refine j_aload_n (i := 0) (t := 86) C d_M_canOf_85 rfl rfl (by first | exact jrv_r | exact jrv_n | exact jrv_f) rfl ?_
          refine j_get (t := 89) C fl_M_39 d_M_canOf_86 hM.1 rfl rfl ?_
          refine j_iload_n (i := 2) (t := 90) C d_M_canOf_89 rfl rfl rfl ?_
          refine j_ld_ms (i := g_sc s k) (t := 91) C d_M_canOf_90 hM (by first | rfl | simp only [nI_add, nI_mul, nI_1]) (by omega) (hkm) rfl ?_
          refine j_icmp_le (tgt := 98) (t := 94) C d_M_canOf_91 (by decide) rfl (fun h91 => ?_) (fun h91 => absurd h91 (fun z => z (Int32.not_lt.mp hs)))
          refine j_iconst (x := 0) (t := 99) C d_M_canOf_98 rfl rfl ?_
          refine j_istore (i := 5) (t := 101) (lv' := [(0, _), (1, _), (2, _), (3, _), (4, _), (5, _)]) C d_M_canOf_99 (by decide) (by decide) rfl rfl ?_
          refine j_aload_n (i := 0) (t := 102) C d_M_canOf_101 rfl rfl (by first | exact jrv_r | exact jrv_n | exact jrv_f) rfl ?_
          refine j_get (t := 105) C fl_M_58 d_M_canOf_102 hM.1 rfl rfl ?_
          refine j_iload_n (i := 1) (t := 106) C d_M_canOf_105 rfl rfl rfl ?_
          refine j_ld_kd (i := k) (t := 107) C d_M_canOf_106 hM (by first | rfl | simp only [nI_add, nI_mul, nI_1]) (by omega) ((r_st k hk).1.trans hK) rfl ?_
          refine j_iconst (x := 2) (t := 108) C d_M_canOf_107 rfl rfl ?_
          refine j_icmp_ge (tgt := 167) (t := 111) C d_M_canOf_108 (by decide) rfl (fun h108 => ?_) (fun h108 => absurd h108 (by decide))
          refine j_iload (t := 169) C d_M_canOf_167 rfl rfl ?_
          refine j_if_ne (tgt := 181) (t := 172) C d_M_canOf_169 (by decide) rfl (fun h169 => ?_) (fun h169 => absurd h169 (by decide))
          refine j_iconst (x := 4) (t := 182) C d_M_canOf_181 rfl rfl ?_
          refine j_goto (tgt := 186) C d_M_canOf_182 (by decide) ?_
          refine j_istore (i := 6) (t := 188) (lv' := [(0, _), (1, _), (2, _), (3, _), (4, _), (5, _), (6, _)]) C d_M_canOf_186 (by decide) (by decide) rfl rfl ?_
          refine j_iload (t := 190) C d_M_canOf_188 rfl rfl ?_
          refine j_if_eq (tgt := 208) (t := 193) C d_M_canOf_190 (by decide) rfl (fun h190 => ?_) (fun h190 => absurd h190 (fun z => z rfl))
          refine j_iload (t := 210) C d_M_canOf_208 rfl rfl ?_
          exact j_iret C d_M_canOf_210 (by first | rfl | exact nar_b) (⟨rfl, by rw [cAt_2 hK hkn, decide_eq_false hs, decide_eq_true hm]; first | rfl | (rw [Bool.true_or]; rfl)⟩) (by omega) (by omega)
        · refine j_aload_n (i := 0) (t := 1) C d_M_canOf_0 rfl rfl (by first | exact jrv_r | exact jrv_n | exact jrv_f) rfl ?_
          refine j_get (t := 4) C fl_M_61 d_M_canOf_1 hM.1 rfl rfl ?_
          refine j_iload_n (i := 1) (t := 5) C d_M_canOf_4 rfl rfl rfl ?_
          refine j_ld_fi (i := k) (t := 6) C d_M_canOf_5 hM (by first | rfl | simp only [nI_add, nI_mul, nI_1]) (by omega) ((r_st k hk).2.1 hk5) rfl ?_
          refine j_istore_n (i := 2) (t := 7) (lv' := [(0, _), (1, _), (2, _)]) C d_M_canOf_6 rfl (by decide) (by decide) rfl rfl ?_
          refine j_aload_n (i := 0) (t := 8) C d_M_canOf_7 rfl rfl (by first | exact jrv_r | exact jrv_n | exact jrv_f) rfl ?_
          refine j_get (t := 11) C fl_M_58 d_M_canOf_8 hM.1 rfl rfl ?_
          refine j_iload_n (i := 1) (t := 12) C d_M_canOf_11 rfl rfl rfl ?_
          refine j_ld_kd (i := k) (t := 13) C d_M_canOf_12 hM (by first | rfl | simp only [nI_add, nI_mul, nI_1]) (by omega) ((r_st k hk).1.trans hK) rfl ?_
          refine j_iconst (x := 4) (t := 14) C d_M_canOf_13 rfl rfl ?_
          refine j_icmp_ne (tgt := 26) (t := 17) C d_M_canOf_14 (by decide) rfl (fun h14 => ?_) (fun h14 => absurd h14 (by decide))
          refine j_iload_n (i := 2) (t := 27) C d_M_canOf_26 rfl rfl rfl ?_
          refine j_istore_n (i := 3) (t := 28) (lv' := [(0, _), (1, _), (2, _), (3, _)]) C d_M_canOf_27 rfl (by decide) (by decide) rfl rfl ?_
          refine j_aload_n (i := 0) (t := 29) C d_M_canOf_28 rfl rfl (by first | exact jrv_r | exact jrv_n | exact jrv_f) rfl ?_
          refine j_get (t := 32) C fl_M_45 d_M_canOf_29 hM.1 rfl rfl ?_
          refine j_iload_n (i := 2) (t := 33) C d_M_canOf_32 rfl rfl rfl ?_
          refine j_ld_kn (i := g_sc s k) (t := 34) C d_M_canOf_33 hM (by first | rfl | simp only [nI_add, nI_mul, nI_1]) (by omega) (hknM) rfl ?_
          refine j_if_eq (tgt := 46) (t := 37) C d_M_canOf_34 (by decide) rfl (fun h34 => absurd h34 (by decide)) (fun h34 => ?_)
          refine j_aload_n (i := 0) (t := 38) C d_M_canOf_37 rfl rfl (by first | exact jrv_r | exact jrv_n | exact jrv_f) rfl ?_
          refine j_get (t := 41) C fl_M_45 d_M_canOf_38 hM.1 rfl rfl ?_
          refine j_iload_n (i := 3) (t := 42) C d_M_canOf_41 rfl rfl rfl ?_
          refine j_ld_kn (i := g_sc s k) (t := 43) C d_M_canOf_42 hM (by first | rfl | simp only [nI_add, nI_mul, nI_1]) (by omega) (hknM) rfl ?_
          refine j_if_ne (tgt := 63) (t := 46) C d_M_canOf_43 (by decide) rfl (fun h43 => ?_) (fun h43 => absurd h43 (by decide))
          refine j_aload_n (i := 0) (t := 64) C d_M_canOf_63 rfl rfl (by first | exact jrv_r | exact jrv_n | exact jrv_f) rfl ?_
          refine j_get (t := 67) C fl_M_39 d_M_canOf_64 hM.1 rfl rfl ?_
          refine j_iload_n (i := 2) (t := 68) C d_M_canOf_67 rfl rfl rfl ?_
          refine j_ld_ms (i := g_sc s k) (t := 69) C d_M_canOf_68 hM (by first | rfl | simp only [nI_add, nI_mul, nI_1]) (by omega) (hkm) rfl ?_
          refine j_if_le (tgt := 76) (t := 72) C d_M_canOf_69 (by decide) rfl (fun h69 => ?_) (fun h69 => absurd h69 (fun z => z (Int32.not_lt.mp hm)))
          refine j_iconst (x := 0) (t := 77) C d_M_canOf_76 rfl rfl ?_
          refine j_istore (i := 4) (t := 79) (lv' := [(0, _), (1, _), (2, _), (3, _), (4, _)]) C d_M_canOf_77 (by decide) (by decide) rfl rfl ?_
          refine j_aload_n (i := 0) (t := 80) C d_M_canOf_79 rfl rfl (by first | exact jrv_r | exact jrv_n | exact jrv_f) rfl ?_
          refine j_get (t := 83) C fl_M_36 d_M_canOf_80 hM.1 rfl rfl ?_
          refine j_iload_n (i := 2) (t := 84) C d_M_canOf_83 rfl rfl rfl ?_
          refine j_ld_rw (i := g_sc s k) (t := 85) C d_M_canOf_84 hM (by first | rfl | simp only [nI_add, nI_mul, nI_1]) (by omega) (hkr) rfl ?_
          refine j_aload_n (i := 0) (t := 86) C d_M_canOf_85 rfl rfl (by first | exact jrv_r | exact jrv_n | exact jrv_f) rfl ?_
          refine j_get (t := 89) C fl_M_39 d_M_canOf_86 hM.1 rfl rfl ?_
          refine j_iload_n (i := 2) (t := 90) C d_M_canOf_89 rfl rfl rfl ?_
          refine j_ld_ms (i := g_sc s k) (t := 91) C d_M_canOf_90 hM (by first | rfl | simp only [nI_add, nI_mul, nI_1]) (by omega) (hkm) rfl ?_
          refine j_icmp_le (tgt := 98) (t := 94) C d_M_canOf_91 (by decide) rfl (fun h91 => ?_) (fun h91 => absurd h91 (fun z => z (Int32.not_lt.mp hs)))
          refine j_iconst (x := 0) (t := 99) C d_M_canOf_98 rfl rfl ?_
          refine j_istore (i := 5) (t := 101) (lv' := [(0, _), (1, _), (2, _), (3, _), (4, _), (5, _)]) C d_M_canOf_99 (by decide) (by decide) rfl rfl ?_
          refine j_aload_n (i := 0) (t := 102) C d_M_canOf_101 rfl rfl (by first | exact jrv_r | exact jrv_n | exact jrv_f) rfl ?_
          refine j_get (t := 105) C fl_M_58 d_M_canOf_102 hM.1 rfl rfl ?_
          refine j_iload_n (i := 1) (t := 106) C d_M_canOf_105 rfl rfl rfl ?_
          refine j_ld_kd (i := k) (t := 107) C d_M_canOf_106 hM (by first | rfl | simp only [nI_add, nI_mul, nI_1]) (by omega) ((r_st k hk).1.trans hK) rfl ?_
          refine j_iconst (x := 2) (t := 108) C d_M_canOf_107 rfl rfl ?_
          refine j_icmp_ge (tgt := 167) (t := 111) C d_M_canOf_108 (by decide) rfl (fun h108 => ?_) (fun h108 => absurd h108 (by decide))
          refine j_iload (t := 169) C d_M_canOf_167 rfl rfl ?_
          refine j_if_ne (tgt := 181) (t := 172) C d_M_canOf_169 (by decide) rfl (fun h169 => absurd h169 (fun z => z rfl)) (fun h169 => ?_)
          refine j_aload_n (i := 0) (t := 173) C d_M_canOf_172 rfl rfl (by first | exact jrv_r | exact jrv_n | exact jrv_f) rfl ?_
          refine j_get (t := 176) C fl_M_39 d_M_canOf_173 hM.1 rfl rfl ?_
          refine j_iload_n (i := 3) (t := 177) C d_M_canOf_176 rfl rfl rfl ?_
          refine j_ld_ms (i := g_sc s k) (t := 178) C d_M_canOf_177 hM (by first | rfl | simp only [nI_add, nI_mul, nI_1]) (by omega) (hkm) rfl ?_
          refine j_if_le (tgt := 185) (t := 181) C d_M_canOf_178 (by decide) rfl (fun h178 => ?_) (fun h178 => absurd h178 (fun z => z (Int32.not_lt.mp hm)))
          refine j_iconst (x := 0) (t := 186) C d_M_canOf_185 rfl rfl ?_
          refine j_istore (i := 6) (t := 188) (lv' := [(0, _), (1, _), (2, _), (3, _), (4, _), (5, _), (6, _)]) C d_M_canOf_186 (by decide) (by decide) rfl rfl ?_
          refine j_iload (t := 190) C d_M_canOf_188 rfl rfl ?_
          refine j_if_eq (tgt := 208) (t := 193) C d_M_canOf_190 (by decide) rfl (fun h190 => ?_) (fun h190 => absurd h190 (fun z => z rfl))
          refine j_iload (t := 210) C d_M_canOf_208 rfl rfl ?_
          exact j_iret C d_M_canOf_210 (by first | rfl | exact nar_b) (⟨rfl, by rw [cAt_2 hK hkn, decide_eq_false hs, decide_eq_false hm]; first | rfl | (rw [Bool.true_or]; rfl)⟩) (by omega) (by omega)
  · obtain ⟨-, ⟨ho1, ho5⟩, P, eP, hoP, hPl, hlt⟩ := st_3 hW hk hK
    cases hkn : g_kn s (g_sc s k) with
    | false =>
      rw [hkn] at hknM
      refine j_aload_n (i := 0) (t := 1) C d_M_canOf_0 rfl rfl (by first | exact jrv_r | exact jrv_n | exact jrv_f) rfl ?_
      refine j_get (t := 4) C fl_M_61 d_M_canOf_1 hM.1 rfl rfl ?_
      refine j_iload_n (i := 1) (t := 5) C d_M_canOf_4 rfl rfl rfl ?_
      refine j_ld_fi (i := k) (t := 6) C d_M_canOf_5 hM (by first | rfl | simp only [nI_add, nI_mul, nI_1]) (by omega) ((r_st k hk).2.1 hk5) rfl ?_
      refine j_istore_n (i := 2) (t := 7) (lv' := [(0, _), (1, _), (2, _)]) C d_M_canOf_6 rfl (by decide) (by decide) rfl rfl ?_
      refine j_aload_n (i := 0) (t := 8) C d_M_canOf_7 rfl rfl (by first | exact jrv_r | exact jrv_n | exact jrv_f) rfl ?_
      refine j_get (t := 11) C fl_M_58 d_M_canOf_8 hM.1 rfl rfl ?_
      refine j_iload_n (i := 1) (t := 12) C d_M_canOf_11 rfl rfl rfl ?_
      refine j_ld_kd (i := k) (t := 13) C d_M_canOf_12 hM (by first | rfl | simp only [nI_add, nI_mul, nI_1]) (by omega) ((r_st k hk).1.trans hK) rfl ?_
      refine j_iconst (x := 4) (t := 14) C d_M_canOf_13 rfl rfl ?_
      refine j_icmp_ne (tgt := 26) (t := 17) C d_M_canOf_14 (by decide) rfl (fun h14 => ?_) (fun h14 => absurd h14 (by decide))
      refine j_iload_n (i := 2) (t := 27) C d_M_canOf_26 rfl rfl rfl ?_
      refine j_istore_n (i := 3) (t := 28) (lv' := [(0, _), (1, _), (2, _), (3, _)]) C d_M_canOf_27 rfl (by decide) (by decide) rfl rfl ?_
      refine j_aload_n (i := 0) (t := 29) C d_M_canOf_28 rfl rfl (by first | exact jrv_r | exact jrv_n | exact jrv_f) rfl ?_
      refine j_get (t := 32) C fl_M_45 d_M_canOf_29 hM.1 rfl rfl ?_
      refine j_iload_n (i := 2) (t := 33) C d_M_canOf_32 rfl rfl rfl ?_
      refine j_ld_kn (i := g_sc s k) (t := 34) C d_M_canOf_33 hM (by first | rfl | simp only [nI_add, nI_mul, nI_1]) (by omega) (hknM) rfl ?_
      refine j_if_eq (tgt := 46) (t := 37) C d_M_canOf_34 (by decide) rfl (fun h34 => ?_) (fun h34 => absurd h34 (fun z => z rfl))
      refine j_aload_n (i := 0) (t := 47) C d_M_canOf_46 rfl rfl (by first | exact jrv_r | exact jrv_n | exact jrv_f) rfl ?_
      refine j_get (t := 50) C fl_M_58 d_M_canOf_47 hM.1 rfl rfl ?_
      refine j_iload_n (i := 1) (t := 51) C d_M_canOf_50 rfl rfl rfl ?_
      refine j_ld_kd (i := k) (t := 52) C d_M_canOf_51 hM (by first | rfl | simp only [nI_add, nI_mul, nI_1]) (by omega) ((r_st k hk).1.trans hK) rfl ?_
      refine j_iconst (x := 2) (t := 53) C d_M_canOf_52 rfl rfl ?_
      refine j_icmp_ge (tgt := 60) (t := 56) C d_M_canOf_53 (by decide) rfl (fun h53 => ?_) (fun h53 => absurd h53 (by decide))
      refine j_bipush (x := nI 7) (t := 62) C d_M_canOf_60 rfl rfl ?_
      exact j_iret C d_M_canOf_62 (by first | rfl | exact nar_b) (⟨rfl, by rw [cAt_u2 (Or.inr (Or.inl hK)) hkn]; rfl⟩) (by omega) (by omega)
    | true =>
      rw [hkn] at hknM
      have hknn := (r_col _ hsc).2.2.2.2.2 hkn
      have hkr := hknn.1
      have hkm := hknn.2.1
      obtain ⟨q1, q2, q3, q4, -⟩ := (wcol _ hsc).2.2.2.2 hkn
      have tail : ∀ (p : jv × jv) (u : Bool) (a4 a5 : Int32), g_mo s (g_sc s k) = some p → cAt s k = trS (cmL (cO (g_so s k)) p.1 p.2 (g_ec s (g_sc s k)) (g_ef s (g_sc s k)) (g_lit s P)) (cmL (g_so s k) p.1 p.2 (g_ec s (g_sc s k)) (g_ef s (g_sc s k)) (g_lit s P)) u → J X (9, 99) (jQ X (fun r w' => w' = w ∧ r = some (.int (cAt s k))) 0 0) w 0 0 211 [(0, .ref o), (1, .int (nI k)), (2, .int (nI (g_sc s k))), (3, .int (nI (g_sc s k))), (4, .int a4), (5, .int a5), (6, .int (bif u then 4 else 0))] [] := by
        intro p u a4 a5 hmo hcu
        have fin : ∀ (y n : Bool), y = (cmL (g_so s k) p.1 p.2 (g_ec s (g_sc s k)) (g_ef s (g_sc s k)) (g_lit s P)) → n = (cmL (cO (g_so s k)) p.1 p.2 (g_ec s (g_sc s k)) (g_ef s (g_sc s k)) (g_lit s P)) → J X (9, 99) (jQ X (fun r w' => w' = w ∧ r = some (.int (cAt s k))) 0 0) w 0 0 413 [(0, .ref o), (1, .int (nI k)), (2, .int (nI (g_sc s k))), (3, .int (nI (g_sc s k))), (4, .int a4), (5, .int a5), (6, .int (bif u then 4 else 0)), (7, .int (bI y)), (8, .int (bI n))] [] := by
          intro y n hy hn
          refine j_iload (t := 415) C d_M_canOf_413 rfl rfl ?_
          refine j_iload (t := 417) C d_M_canOf_415 rfl rfl ?_
          refine j_if_eq (tgt := 424) (t := 420) C d_M_canOf_417 (by decide) rfl (fun h417 => ?_) (fun h417 => ?_)
          · refine j_iconst (x := 0) (t := 425) C d_M_canOf_424 rfl rfl ?_
            refine j_iadd (t := 426) C d_M_canOf_425 rfl ?_
            refine j_iload (t := 428) C d_M_canOf_426 rfl rfl ?_
            refine j_if_eq (tgt := 435) (t := 431) C d_M_canOf_428 (by decide) rfl (fun h428 => ?_) (fun h428 => ?_)
            · refine j_iconst (x := 0) (t := 436) C d_M_canOf_435 rfl rfl ?_
              refine j_iadd (t := 437) C d_M_canOf_436 rfl ?_
              exact j_iret C d_M_canOf_437 (by first | rfl | exact nar_b) (⟨rfl, by simp only [bI_0, Bool.not_eq_false] at h417 h428; rw [hcu, ← hy, ← hn, trS_sum, h417, h428]; rfl⟩) (by omega) (by omega)
            · refine j_iconst (x := 1) (t := 432) C d_M_canOf_431 rfl rfl ?_
              refine j_goto (tgt := 436) C d_M_canOf_432 (by decide) ?_
              refine j_iadd (t := 437) C d_M_canOf_436 rfl ?_
              exact j_iret C d_M_canOf_437 (by first | rfl | exact nar_b) (⟨rfl, by simp only [bI_0, Bool.not_eq_false] at h417 h428; rw [hcu, ← hy, ← hn, trS_sum, h417, h428]; rfl⟩) (by omega) (by omega)
          · refine j_iconst (x := 2) (t := 421) C d_M_canOf_420 rfl rfl ?_
            refine j_goto (tgt := 425) C d_M_canOf_421 (by decide) ?_
            refine j_iadd (t := 426) C d_M_canOf_425 rfl ?_
            refine j_iload (t := 428) C d_M_canOf_426 rfl rfl ?_
            refine j_if_eq (tgt := 435) (t := 431) C d_M_canOf_428 (by decide) rfl (fun h428 => ?_) (fun h428 => ?_)
            · refine j_iconst (x := 0) (t := 436) C d_M_canOf_435 rfl rfl ?_
              refine j_iadd (t := 437) C d_M_canOf_436 rfl ?_
              exact j_iret C d_M_canOf_437 (by first | rfl | exact nar_b) (⟨rfl, by simp only [bI_0, Bool.not_eq_false] at h417 h428; rw [hcu, ← hy, ← hn, trS_sum, h417, h428]; rfl⟩) (by omega) (by omega)
            · refine j_iconst (x := 1) (t := 432) C d_M_canOf_431 rfl rfl ?_
              refine j_goto (tgt := 436) C d_M_canOf_432 (by decide) ?_
              refine j_iadd (t := 437) C d_M_canOf_436 rfl ?_
              exact j_iret C d_M_canOf_437 (by first | rfl | exact nar_b) (⟨rfl, by simp only [bI_0, Bool.not_eq_false] at h417 h428; rw [hcu, ← hy, ← hn, trS_sum, h417, h428]; rfl⟩) (by omega) (by omega)
        have nos : ∀ (y : Bool) (a8 : Int32), y = (cmL (g_so s k) p.1 p.2 (g_ec s (g_sc s k)) (g_ef s (g_sc s k)) (g_lit s P)) → J X (9, 99) (jQ X (fun r w' => w' = w ∧ r = some (.int (cAt s k))) 0 0) w 0 0 341 [(0, .ref o), (1, .int (nI k)), (2, .int (nI (g_sc s k))), (3, .int (nI (g_sc s k))), (4, .int a4), (5, .int a5), (6, .int (bif u then 4 else 0)), (7, .int (bI y)), (8, .int a8)] [] := by
          intro y a8 hy
          refine j_aload_n (i := 0) (t := 342) C d_M_canOf_341 rfl rfl (by first | exact jrv_r | exact jrv_n | exact jrv_f) rfl ?_
          refine j_get (t := 345) C fl_M_58 d_M_canOf_342 hM.1 rfl rfl ?_
          refine j_iload_n (i := 1) (t := 346) C d_M_canOf_345 rfl rfl rfl ?_
          refine j_ld_kd (i := k) (t := 347) C d_M_canOf_346 hM (by first | rfl | simp only [nI_add, nI_mul, nI_1]) (by omega) ((r_st k hk).1.trans hK) rfl ?_
          refine j_iconst (x := 4) (t := 348) C d_M_canOf_347 rfl rfl ?_
          refine j_icmp_ne (tgt := 369) (t := 351) C d_M_canOf_348 (by decide) rfl (fun h348 => ?_) (fun h348 => absurd h348 (by decide))
          refine j_aload_n (i := 0) (t := 370) C d_M_canOf_369 rfl rfl (by first | exact jrv_r | exact jrv_n | exact jrv_f) rfl ?_
          refine j_get (t := 373) C fl_M_58 d_M_canOf_370 hM.1 rfl rfl ?_
          refine j_iload_n (i := 1) (t := 374) C d_M_canOf_373 rfl rfl rfl ?_
          refine j_ld_kd (i := k) (t := 375) C d_M_canOf_374 hM (by first | rfl | simp only [nI_add, nI_mul, nI_1]) (by omega) ((r_st k hk).1.trans hK) rfl ?_
          refine j_iconst (x := 3) (t := 376) C d_M_canOf_375 rfl rfl ?_
          refine j_icmp_ne (tgt := 406) (t := 379) C d_M_canOf_376 (by decide) rfl (fun h376 => absurd h376 (by decide)) (fun h376 => ?_)
          refine j_aload_n (i := 0) (t := 380) C d_M_canOf_379 rfl rfl (by first | exact jrv_r | exact jrv_n | exact jrv_f) rfl ?_
          refine j_iload_n (i := 2) (t := 381) C d_M_canOf_380 rfl rfl rfl ?_
          refine j_aload_n (i := 0) (t := 382) C d_M_canOf_381 rfl rfl (by first | exact jrv_r | exact jrv_n | exact jrv_f) rfl ?_
          refine j_get (t := 385) C fl_M_64 d_M_canOf_382 hM.1 rfl rfl ?_
          refine j_iload_n (i := 1) (t := 386) C d_M_canOf_385 rfl rfl rfl ?_
          refine j_ld_op (i := k) (t := 387) C d_M_canOf_386 hM (by first | rfl | simp only [nI_add, nI_mul, nI_1]) (by omega) ((r_st k hk).2.2.1) rfl ?_
          refine j_callS (As := [_]) (t := 390) C (c_M_contrary _ (g_so s k)) d_M_canOf_387 jb_M_contrary ml_M_169 st_M_contrary rfl (Nat.le_of_ble_eq_true rfl) (by decide) (by omega) (by omega) (rfl) rfl (fun r387 w387 p387 => ?_)
          obtain ⟨rfl, rfl⟩ := p387
          dsimp only [jst]
          refine j_sipush (x := nI 17632) (t := 393) C d_M_canOf_390 rfl rfl ?_
          refine j_aload_n (i := 0) (t := 394) C d_M_canOf_393 rfl rfl (by first | exact jrv_r | exact jrv_n | exact jrv_f) rfl ?_
          refine j_get (t := 397) C fl_M_67 d_M_canOf_394 hM.1 rfl rfl ?_
          refine j_iload_n (i := 1) (t := 398) C d_M_canOf_397 rfl rfl rfl ?_
          refine j_ld_ot (i := k) (t := 399) C d_M_canOf_398 hM (by first | rfl | simp only [nI_add, nI_mul, nI_1]) (by omega) ((r_st k hk).2.2.2.1.trans eP) rfl ?_
          refine j_iadd (t := 400) C d_M_canOf_399 rfl ?_
          rw [nI_add]
          refine j_callV (As := [_, _, _]) (t := 403) C (c_M_may _ o q m s (g_sc s k) (17632 + P) (cO (g_so s k)) (g_lit s P) p) d_M_canOf_400 jb_M_may ml_M_166 jv_M_may hM.1 rfl rfl rfl (Nat.le_of_ble_eq_true rfl) (by decide) (by omega) (by omega) (⟨⟨rfl, hM, hR, hW⟩, hsc, hkn, hmo, cO_5 ho1 ho5, lit_ok hR hW hPl hlt⟩) rfl (fun r400 w400 p400 => ?_)
          obtain ⟨rfl, rfl⟩ := p400
          dsimp only [jst]
          refine j_goto (tgt := 411) C d_M_canOf_403 (by decide) ?_
          refine j_istore (i := 8) (t := 413) (lv' := [(0, _), (1, _), (2, _), (3, _), (4, _), (5, _), (6, _), (7, _), (8, _)]) C d_M_canOf_411 (by decide) (by decide) rfl rfl ?_
          exact fin y _ hy rfl
        refine j_aload_n (i := 0) (t := 212) C d_M_canOf_211 rfl rfl (by first | exact jrv_r | exact jrv_n | exact jrv_f) rfl ?_
        refine j_get (t := 215) C fl_M_58 d_M_canOf_212 hM.1 rfl rfl ?_
        refine j_iload_n (i := 1) (t := 216) C d_M_canOf_215 rfl rfl rfl ?_
        refine j_ld_kd (i := k) (t := 217) C d_M_canOf_216 hM (by first | rfl | simp only [nI_add, nI_mul, nI_1]) (by omega) ((r_st k hk).1.trans hK) rfl ?_
        refine j_iconst (x := 4) (t := 218) C d_M_canOf_217 rfl rfl ?_
        refine j_icmp_ne (tgt := 236) (t := 221) C d_M_canOf_218 (by decide) rfl (fun h218 => ?_) (fun h218 => absurd h218 (by decide))
        refine j_aload_n (i := 0) (t := 237) C d_M_canOf_236 rfl rfl (by first | exact jrv_r | exact jrv_n | exact jrv_f) rfl ?_
        refine j_get (t := 240) C fl_M_58 d_M_canOf_237 hM.1 rfl rfl ?_
        refine j_iload_n (i := 1) (t := 241) C d_M_canOf_240 rfl rfl rfl ?_
        refine j_ld_kd (i := k) (t := 242) C d_M_canOf_241 hM (by first | rfl | simp only [nI_add, nI_mul, nI_1]) (by omega) ((r_st k hk).1.trans hK) rfl ?_
        refine j_iconst (x := 3) (t := 243) C d_M_canOf_242 rfl rfl ?_
        refine j_icmp_ne (tgt := 274) (t := 246) C d_M_canOf_243 (by decide) rfl (fun h243 => absurd h243 (by decide)) (fun h243 => ?_)
        refine j_aload_n (i := 0) (t := 247) C d_M_canOf_246 rfl rfl (by first | exact jrv_r | exact jrv_n | exact jrv_f) rfl ?_
        refine j_iload_n (i := 2) (t := 248) C d_M_canOf_247 rfl rfl rfl ?_
        refine j_aload_n (i := 0) (t := 249) C d_M_canOf_248 rfl rfl (by first | exact jrv_r | exact jrv_n | exact jrv_f) rfl ?_
        refine j_get (t := 252) C fl_M_64 d_M_canOf_249 hM.1 rfl rfl ?_
        refine j_iload_n (i := 1) (t := 253) C d_M_canOf_252 rfl rfl rfl ?_
        refine j_ld_op (i := k) (t := 254) C d_M_canOf_253 hM (by first | rfl | simp only [nI_add, nI_mul, nI_1]) (by omega) ((r_st k hk).2.2.1) rfl ?_
        refine j_sipush (x := nI 17632) (t := 257) C d_M_canOf_254 rfl rfl ?_
        refine j_aload_n (i := 0) (t := 258) C d_M_canOf_257 rfl rfl (by first | exact jrv_r | exact jrv_n | exact jrv_f) rfl ?_
        refine j_get (t := 261) C fl_M_67 d_M_canOf_258 hM.1 rfl rfl ?_
        refine j_iload_n (i := 1) (t := 262) C d_M_canOf_261 rfl rfl rfl ?_
        refine j_ld_ot (i := k) (t := 263) C d_M_canOf_262 hM (by first | rfl | simp only [nI_add, nI_mul, nI_1]) (by omega) ((r_st k hk).2.2.2.1.trans eP) rfl ?_
        refine j_iadd (t := 264) C d_M_canOf_263 rfl ?_
        rw [nI_add]
        refine j_callV (As := [_, _, _]) (t := 267) C (c_M_may _ o q m s (g_sc s k) (17632 + P) (g_so s k) (g_lit s P) p) d_M_canOf_264 jb_M_may ml_M_166 jv_M_may hM.1 rfl rfl rfl (Nat.le_of_ble_eq_true rfl) (by decide) (by omega) (by omega) (⟨⟨rfl, hM, hR, hW⟩, hsc, hkn, hmo, ⟨ho1, ho5⟩, lit_ok hR hW hPl hlt⟩) rfl (fun r264 w264 p264 => ?_)
        obtain ⟨rfl, rfl⟩ := p264
        dsimp only [jst]
        refine j_if_eq (tgt := 274) (t := 270) C d_M_canOf_267 (by decide) rfl (fun h267 => ?_) (fun h267 => ?_)
        · refine j_iconst (x := 0) (t := 275) C d_M_canOf_274 rfl rfl ?_
          refine j_istore (i := 7) (t := 277) (lv' := [(0, _), (1, _), (2, _), (3, _), (4, _), (5, _), (6, _), (7, _)]) C d_M_canOf_275 (by decide) (by decide) rfl rfl ?_
          refine j_iconst (x := 0) (t := 278) C d_M_canOf_277 rfl rfl ?_
          refine j_istore (i := 8) (t := 280) (lv' := [(0, _), (1, _), (2, _), (3, _), (4, _), (5, _), (6, _), (7, _), (8, _)]) C d_M_canOf_278 (by decide) (by decide) rfl rfl ?_
          refine j_iload (t := 282) C d_M_canOf_280 rfl rfl ?_
          refine j_aload_n (i := 0) (t := 283) C d_M_canOf_282 rfl rfl (by first | exact jrv_r | exact jrv_n | exact jrv_f) rfl ?_
          refine j_get (t := 286) C fl_M_70 d_M_canOf_283 hM.1 rfl rfl ?_
          refine j_iload_n (i := 1) (t := 287) C d_M_canOf_286 rfl rfl rfl ?_
          refine j_ld_mn (i := k) (t := 288) C d_M_canOf_287 hM (by first | rfl | simp only [nI_add, nI_mul, nI_1]) (by omega) rfl rfl ?_
          refine j_icmp_ge (tgt := 341) (t := 291) C d_M_canOf_288 (by decide) rfl (fun h288 => ?_) (fun h288 => ?_)
          · first
            | (rw [bI_0, Bool.not_eq_false] at h267; exact nos true _ h267.symm)
            | (rw [bI_0] at h267; exact nos false _ h267.symm)
          · refine j_aload_n (i := 0) (t := 292) C d_M_canOf_291 rfl rfl (by first | exact jrv_r | exact jrv_n | exact jrv_f) rfl ?_
            refine j_get (t := 295) C fl_M_58 d_M_canOf_292 hM.1 rfl rfl ?_
            refine j_iload_n (i := 1) (t := 296) C d_M_canOf_295 rfl rfl rfl ?_
            refine j_ld_kd (i := k) (t := 297) C d_M_canOf_296 hM (by first | rfl | simp only [nI_add, nI_mul, nI_1]) (by omega) ((r_st k hk).1.trans hK) rfl ?_
            refine j_iconst (x := 2) (t := 298) C d_M_canOf_297 rfl rfl ?_
            refine j_icmp_ne (tgt := 341) (t := 301) C d_M_canOf_298 (by decide) rfl (fun h298 => ?_) (fun h298 => absurd h298 (by decide))
            first
            | (rw [bI_0, Bool.not_eq_false] at h267; exact nos true _ h267.symm)
            | (rw [bI_0] at h267; exact nos false _ h267.symm)
        · refine j_iconst (x := 1) (t := 271) C d_M_canOf_270 rfl rfl ?_
          refine j_goto (tgt := 275) C d_M_canOf_271 (by decide) ?_
          refine j_istore (i := 7) (t := 277) (lv' := [(0, _), (1, _), (2, _), (3, _), (4, _), (5, _), (6, _), (7, _)]) C d_M_canOf_275 (by decide) (by decide) rfl rfl ?_
          refine j_iconst (x := 0) (t := 278) C d_M_canOf_277 rfl rfl ?_
          refine j_istore (i := 8) (t := 280) (lv' := [(0, _), (1, _), (2, _), (3, _), (4, _), (5, _), (6, _), (7, _), (8, _)]) C d_M_canOf_278 (by decide) (by decide) rfl rfl ?_
          refine j_iload (t := 282) C d_M_canOf_280 rfl rfl ?_
          refine j_aload_n (i := 0) (t := 283) C d_M_canOf_282 rfl rfl (by first | exact jrv_r | exact jrv_n | exact jrv_f) rfl ?_
          refine j_get (t := 286) C fl_M_70 d_M_canOf_283 hM.1 rfl rfl ?_
          refine j_iload_n (i := 1) (t := 287) C d_M_canOf_286 rfl rfl rfl ?_
          refine j_ld_mn (i := k) (t := 288) C d_M_canOf_287 hM (by first | rfl | simp only [nI_add, nI_mul, nI_1]) (by omega) rfl rfl ?_
          refine j_icmp_ge (tgt := 341) (t := 291) C d_M_canOf_288 (by decide) rfl (fun h288 => ?_) (fun h288 => ?_)
          · first
            | (rw [bI_0, Bool.not_eq_false] at h267; exact nos true _ h267.symm)
            | (rw [bI_0] at h267; exact nos false _ h267.symm)
          · refine j_aload_n (i := 0) (t := 292) C d_M_canOf_291 rfl rfl (by first | exact jrv_r | exact jrv_n | exact jrv_f) rfl ?_
            refine j_get (t := 295) C fl_M_58 d_M_canOf_292 hM.1 rfl rfl ?_
            refine j_iload_n (i := 1) (t := 296) C d_M_canOf_295 rfl rfl rfl ?_
            refine j_ld_kd (i := k) (t := 297) C d_M_canOf_296 hM (by first | rfl | simp only [nI_add, nI_mul, nI_1]) (by omega) ((r_st k hk).1.trans hK) rfl ?_
            refine j_iconst (x := 2) (t := 298) C d_M_canOf_297 rfl rfl ?_
            refine j_icmp_ne (tgt := 341) (t := 301) C d_M_canOf_298 (by decide) rfl (fun h298 => ?_) (fun h298 => absurd h298 (by decide))
            first
            | (rw [bI_0, Bool.not_eq_false] at h267; exact nos true _ h267.symm)
            | (rw [bI_0] at h267; exact nos false _ h267.symm)
      by_cases hs : g_km s (g_sc s k) < g_kr s (g_sc s k)
      · by_cases hm : 0 < g_km s (g_sc s k)
        · refine j_aload_n (i := 0) (t := 1) C d_M_canOf_0 rfl rfl (by first | exact jrv_r | exact jrv_n | exact jrv_f) rfl ?_
          refine j_get (t := 4) C fl_M_61 d_M_canOf_1 hM.1 rfl rfl ?_
          refine j_iload_n (i := 1) (t := 5) C d_M_canOf_4 rfl rfl rfl ?_
          refine j_ld_fi (i := k) (t := 6) C d_M_canOf_5 hM (by first | rfl | simp only [nI_add, nI_mul, nI_1]) (by omega) ((r_st k hk).2.1 hk5) rfl ?_
          refine j_istore_n (i := 2) (t := 7) (lv' := [(0, _), (1, _), (2, _)]) C d_M_canOf_6 rfl (by decide) (by decide) rfl rfl ?_
          refine j_aload_n (i := 0) (t := 8) C d_M_canOf_7 rfl rfl (by first | exact jrv_r | exact jrv_n | exact jrv_f) rfl ?_
          refine j_get (t := 11) C fl_M_58 d_M_canOf_8 hM.1 rfl rfl ?_
          refine j_iload_n (i := 1) (t := 12) C d_M_canOf_11 rfl rfl rfl ?_
          refine j_ld_kd (i := k) (t := 13) C d_M_canOf_12 hM (by first | rfl | simp only [nI_add, nI_mul, nI_1]) (by omega) ((r_st k hk).1.trans hK) rfl ?_
          refine j_iconst (x := 4) (t := 14) C d_M_canOf_13 rfl rfl ?_
          refine j_icmp_ne (tgt := 26) (t := 17) C d_M_canOf_14 (by decide) rfl (fun h14 => ?_) (fun h14 => absurd h14 (by decide))
          refine j_iload_n (i := 2) (t := 27) C d_M_canOf_26 rfl rfl rfl ?_
          refine j_istore_n (i := 3) (t := 28) (lv' := [(0, _), (1, _), (2, _), (3, _)]) C d_M_canOf_27 rfl (by decide) (by decide) rfl rfl ?_
          refine j_aload_n (i := 0) (t := 29) C d_M_canOf_28 rfl rfl (by first | exact jrv_r | exact jrv_n | exact jrv_f) rfl ?_
          refine j_get (t := 32) C fl_M_45 d_M_canOf_29 hM.1 rfl rfl ?_
          refine j_iload_n (i := 2) (t := 33) C d_M_canOf_32 rfl rfl rfl ?_
          refine j_ld_kn (i := g_sc s k) (t := 34) C d_M_canOf_33 hM (by first | rfl | simp only [nI_add, nI_mul, nI_1]) (by omega) (hknM) rfl ?_
          refine j_if_eq (tgt := 46) (t := 37) C d_M_canOf_34 (by decide) rfl (fun h34 => absurd h34 (by decide)) (fun h34 => ?_)
          refine j_aload_n (i := 0) (t := 38) C d_M_canOf_37 rfl rfl (by first | exact jrv_r | exact jrv_n | exact jrv_f) rfl ?_
          refine j_get (t := 41) C fl_M_45 d_M_canOf_38 hM.1 rfl rfl ?_
          refine j_iload_n (i := 3) (t := 42) C d_M_canOf_41 rfl rfl rfl ?_
          refine j_ld_kn (i := g_sc s k) (t := 43) C d_M_canOf_42 hM (by first | rfl | simp only [nI_add, nI_mul, nI_1]) (by omega) (hknM) rfl ?_
          refine j_if_ne (tgt := 63) (t := 46) C d_M_canOf_43 (by decide) rfl (fun h43 => ?_) (fun h43 => absurd h43 (by decide))
          refine j_aload_n (i := 0) (t := 64) C d_M_canOf_63 rfl rfl (by first | exact jrv_r | exact jrv_n | exact jrv_f) rfl ?_
          refine j_get (t := 67) C fl_M_39 d_M_canOf_64 hM.1 rfl rfl ?_
          refine j_iload_n (i := 2) (t := 68) C d_M_canOf_67 rfl rfl rfl ?_
          refine j_ld_ms (i := g_sc s k) (t := 69) C d_M_canOf_68 hM (by first | rfl | simp only [nI_add, nI_mul, nI_1]) (by omega) (hkm) rfl ?_
          refine j_if_le (tgt := 76) (t := 72) C d_M_canOf_69 (by decide) rfl (fun h69 => absurd h69 (Int32.not_le.mpr hm)) (fun h69 => ?_)
          refine j_iconst (x := 1) (t := 73) C d_M_canOf_72 rfl rfl ?_
          refine j_goto (tgt := 77) C d_M_canOf_73 (by decide) ?_
          refine j_istore (i := 4) (t := 79) (lv' := [(0, _), (1, _), (2, _), (3, _), (4, _)]) C d_M_canOf_77 (by decide) (by decide) rfl rfl ?_
          refine j_aload_n (i := 0) (t := 80) C d_M_canOf_79 rfl rfl (by first | exact jrv_r | exact jrv_n | exact jrv_f) rfl ?_
          refine j_get (t := 83) C fl_M_36 d_M_canOf_80 hM.1 rfl rfl ?_
          refine j_iload_n (i := 2) (t := 84) C d_M_canOf_83 rfl rfl rfl ?_
          refine j_ld_rw (i := g_sc s k) (t := 85) C d_M_canOf_84 hM (by first | rfl | simp only [nI_add, nI_mul, nI_1]) (by omega) (hkr) rfl ?_
          refine j_aload_n (i := 0) (t := 86) C d_M_canOf_85 rfl rfl (by first | exact jrv_r | exact jrv_n | exact jrv_f) rfl ?_
          refine j_get (t := 89) C fl_M_39 d_M_canOf_86 hM.1 rfl rfl ?_
          refine j_iload_n (i := 2) (t := 90) C d_M_canOf_89 rfl rfl rfl ?_
          refine j_ld_ms (i := g_sc s k) (t := 91) C d_M_canOf_90 hM (by first | rfl | simp only [nI_add, nI_mul, nI_1]) (by omega) (hkm) rfl ?_
          refine j_icmp_le (tgt := 98) (t := 94) C d_M_canOf_91 (by decide) rfl (fun h91 => absurd h91 (Int32.not_le.mpr hs)) (fun h91 => ?_)
          refine j_iconst (x := 1) (t := 95) C d_M_canOf_94 rfl rfl ?_
          refine j_goto (tgt := 99) C d_M_canOf_95 (by decide) ?_
          refine j_istore (i := 5) (t := 101) (lv' := [(0, _), (1, _), (2, _), (3, _), (4, _), (5, _)]) C d_M_canOf_99 (by decide) (by decide) rfl rfl ?_
          refine j_aload_n (i := 0) (t := 102) C d_M_canOf_101 rfl rfl (by first | exact jrv_r | exact jrv_n | exact jrv_f) rfl ?_
          refine j_get (t := 105) C fl_M_58 d_M_canOf_102 hM.1 rfl rfl ?_
          refine j_iload_n (i := 1) (t := 106) C d_M_canOf_105 rfl rfl rfl ?_
          refine j_ld_kd (i := k) (t := 107) C d_M_canOf_106 hM (by first | rfl | simp only [nI_add, nI_mul, nI_1]) (by omega) ((r_st k hk).1.trans hK) rfl ?_
          refine j_iconst (x := 2) (t := 108) C d_M_canOf_107 rfl rfl ?_
          refine j_icmp_ge (tgt := 167) (t := 111) C d_M_canOf_108 (by decide) rfl (fun h108 => ?_) (fun h108 => absurd h108 (by decide))
          refine j_iload (t := 169) C d_M_canOf_167 rfl rfl ?_
          refine j_if_ne (tgt := 181) (t := 172) C d_M_canOf_169 (by decide) rfl (fun h169 => ?_) (fun h169 => absurd h169 (by decide))
          refine j_iconst (x := 4) (t := 182) C d_M_canOf_181 rfl rfl ?_
          refine j_goto (tgt := 186) C d_M_canOf_182 (by decide) ?_
          refine j_istore (i := 6) (t := 188) (lv' := [(0, _), (1, _), (2, _), (3, _), (4, _), (5, _), (6, _)]) C d_M_canOf_186 (by decide) (by decide) rfl rfl ?_
          refine j_iload (t := 190) C d_M_canOf_188 rfl rfl ?_
          refine j_if_eq (tgt := 208) (t := 193) C d_M_canOf_190 (by decide) rfl (fun h190 => absurd h190 (by decide)) (fun h190 => ?_)
          refine j_aload_n (i := 0) (t := 194) C d_M_canOf_193 rfl rfl (by first | exact jrv_r | exact jrv_n | exact jrv_f) rfl ?_
          refine j_get (t := 197) C fl_M_36 d_M_canOf_194 hM.1 rfl rfl ?_
          refine j_iload_n (i := 3) (t := 198) C d_M_canOf_197 rfl rfl rfl ?_
          refine j_ld_rw (i := g_sc s k) (t := 199) C d_M_canOf_198 hM (by first | rfl | simp only [nI_add, nI_mul, nI_1]) (by omega) (hkr) rfl ?_
          refine j_aload_n (i := 0) (t := 200) C d_M_canOf_199 rfl rfl (by first | exact jrv_r | exact jrv_n | exact jrv_f) rfl ?_
          refine j_get (t := 203) C fl_M_39 d_M_canOf_200 hM.1 rfl rfl ?_
          refine j_iload_n (i := 3) (t := 204) C d_M_canOf_203 rfl rfl rfl ?_
          refine j_ld_ms (i := g_sc s k) (t := 205) C d_M_canOf_204 hM (by first | rfl | simp only [nI_add, nI_mul, nI_1]) (by omega) (hkm) rfl ?_
          refine j_icmp_ne (tgt := 211) (t := 208) C d_M_canOf_205 (by decide) rfl (fun h205 => ?_) (fun h205 => absurd h205 (fun z => absurd hs (by rw [z]; exact Int32.lt_irrefl)))
          obtain ⟨p, hp⟩ := Option.isSome_iff_exists.mp (q4 hs)
          exact tail p true _ _ hp (by rw [cAt_3 hK hkn, hoP, moL_s hp, moH_s hp, decide_eq_true hs, decide_eq_true hm]; rfl)
        · refine j_aload_n (i := 0) (t := 1) C d_M_canOf_0 rfl rfl (by first | exact jrv_r | exact jrv_n | exact jrv_f) rfl ?_
          refine j_get (t := 4) C fl_M_61 d_M_canOf_1 hM.1 rfl rfl ?_
          refine j_iload_n (i := 1) (t := 5) C d_M_canOf_4 rfl rfl rfl ?_
          refine j_ld_fi (i := k) (t := 6) C d_M_canOf_5 hM (by first | rfl | simp only [nI_add, nI_mul, nI_1]) (by omega) ((r_st k hk).2.1 hk5) rfl ?_
          refine j_istore_n (i := 2) (t := 7) (lv' := [(0, _), (1, _), (2, _)]) C d_M_canOf_6 rfl (by decide) (by decide) rfl rfl ?_
          refine j_aload_n (i := 0) (t := 8) C d_M_canOf_7 rfl rfl (by first | exact jrv_r | exact jrv_n | exact jrv_f) rfl ?_
          refine j_get (t := 11) C fl_M_58 d_M_canOf_8 hM.1 rfl rfl ?_
          refine j_iload_n (i := 1) (t := 12) C d_M_canOf_11 rfl rfl rfl ?_
          refine j_ld_kd (i := k) (t := 13) C d_M_canOf_12 hM (by first | rfl | simp only [nI_add, nI_mul, nI_1]) (by omega) ((r_st k hk).1.trans hK) rfl ?_
          refine j_iconst (x := 4) (t := 14) C d_M_canOf_13 rfl rfl ?_
          refine j_icmp_ne (tgt := 26) (t := 17) C d_M_canOf_14 (by decide) rfl (fun h14 => ?_) (fun h14 => absurd h14 (by decide))
          refine j_iload_n (i := 2) (t := 27) C d_M_canOf_26 rfl rfl rfl ?_
          refine j_istore_n (i := 3) (t := 28) (lv' := [(0, _), (1, _), (2, _), (3, _)]) C d_M_canOf_27 rfl (by decide) (by decide) rfl rfl ?_
          refine j_aload_n (i := 0) (t := 29) C d_M_canOf_28 rfl rfl (by first | exact jrv_r | exact jrv_n | exact jrv_f) rfl ?_
          refine j_get (t := 32) C fl_M_45 d_M_canOf_29 hM.1 rfl rfl ?_
          refine j_iload_n (i := 2) (t := 33) C d_M_canOf_32 rfl rfl rfl ?_
          refine j_ld_kn (i := g_sc s k) (t := 34) C d_M_canOf_33 hM (by first | rfl | simp only [nI_add, nI_mul, nI_1]) (by omega) (hknM) rfl ?_
          refine j_if_eq (tgt := 46) (t := 37) C d_M_canOf_34 (by decide) rfl (fun h34 => absurd h34 (by decide)) (fun h34 => ?_)
          refine j_aload_n (i := 0) (t := 38) C d_M_canOf_37 rfl rfl (by first | exact jrv_r | exact jrv_n | exact jrv_f) rfl ?_
          refine j_get (t := 41) C fl_M_45 d_M_canOf_38 hM.1 rfl rfl ?_
          refine j_iload_n (i := 3) (t := 42) C d_M_canOf_41 rfl rfl rfl ?_
          refine j_ld_kn (i := g_sc s k) (t := 43) C d_M_canOf_42 hM (by first | rfl | simp only [nI_add, nI_mul, nI_1]) (by omega) (hknM) rfl ?_
          refine j_if_ne (tgt := 63) (t := 46) C d_M_canOf_43 (by decide) rfl (fun h43 => ?_) (fun h43 => absurd h43 (by decide))
          refine j_aload_n (i := 0) (t := 64) C d_M_canOf_63 rfl rfl (by first | exact jrv_r | exact jrv_n | exact jrv_f) rfl ?_
          refine j_get (t := 67) C fl_M_39 d_M_canOf_64 hM.1 rfl rfl ?_
          refine j_iload_n (i := 2) (t := 68) C d_M_canOf_67 rfl rfl rfl ?_
          refine j_ld_ms (i := g_sc s k) (t := 69) C d_M_canOf_68 hM (by first | rfl | simp only [nI_add, nI_mul, nI_1]) (by omega) (hkm) rfl ?_
          refine j_if_le (tgt := 76) (t := 72) C d_M_canOf_69 (by decide) rfl (fun h69 => ?_) (fun h69 => absurd h69 (fun z => z (Int32.not_lt.mp hm)))
          refine j_iconst (x := 0) (t := 77) C d_M_canOf_76 rfl rfl ?_
          refine j_istore (i := 4) (t := 79) (lv' := [(0, _), (1, _), (2, _), (3, _), (4, _)]) C d_M_canOf_77 (by decide) (by decide) rfl rfl ?_
          refine j_aload_n (i := 0) (t := 80) C d_M_canOf_79 rfl rfl (by first | exact jrv_r | exact jrv_n | exact jrv_f) rfl ?_
          refine j_get (t := 83) C fl_M_36 d_M_canOf_80 hM.1 rfl rfl ?_
          refine j_iload_n (i := 2) (t := 84) C d_M_canOf_83 rfl rfl rfl ?_
          refine j_ld_rw (i := g_sc s k) (t := 85) C d_M_canOf_84 hM (by first | rfl | simp only [nI_add, nI_mul, nI_1]) (by omega) (hkr) rfl ?_
          refine j_aload_n (i := 0) (t := 86) C d_M_canOf_85 rfl rfl (by first | exact jrv_r | exact jrv_n | exact jrv_f) rfl ?_
          refine j_get (t := 89) C fl_M_39 d_M_canOf_86 hM.1 rfl rfl ?_
          refine j_iload_n (i := 2) (t := 90) C d_M_canOf_89 rfl rfl rfl ?_
          refine j_ld_ms (i := g_sc s k) (t := 91) C d_M_canOf_90 hM (by first | rfl | simp only [nI_add, nI_mul, nI_1]) (by omega) (hkm) rfl ?_
          refine j_icmp_le (tgt := 98) (t := 94) C d_M_canOf_91 (by decide) rfl (fun h91 => absurd h91 (Int32.not_le.mpr hs)) (fun h91 => ?_)
          refine j_iconst (x := 1) (t := 95) C d_M_canOf_94 rfl rfl ?_
          refine j_goto (tgt := 99) C d_M_canOf_95 (by decide) ?_
          refine j_istore (i := 5) (t := 101) (lv' := [(0, _), (1, _), (2, _), (3, _), (4, _), (5, _)]) C d_M_canOf_99 (by decide) (by decide) rfl rfl ?_
          refine j_aload_n (i := 0) (t := 102) C d_M_canOf_101 rfl rfl (by first | exact jrv_r | exact jrv_n | exact jrv_f) rfl ?_
          refine j_get (t := 105) C fl_M_58 d_M_canOf_102 hM.1 rfl rfl ?_
          refine j_iload_n (i := 1) (t := 106) C d_M_canOf_105 rfl rfl rfl ?_
          refine j_ld_kd (i := k) (t := 107) C d_M_canOf_106 hM (by first | rfl | simp only [nI_add, nI_mul, nI_1]) (by omega) ((r_st k hk).1.trans hK) rfl ?_
          refine j_iconst (x := 2) (t := 108) C d_M_canOf_107 rfl rfl ?_
          refine j_icmp_ge (tgt := 167) (t := 111) C d_M_canOf_108 (by decide) rfl (fun h108 => ?_) (fun h108 => absurd h108 (by decide))
          refine j_iload (t := 169) C d_M_canOf_167 rfl rfl ?_
          refine j_if_ne (tgt := 181) (t := 172) C d_M_canOf_169 (by decide) rfl (fun h169 => absurd h169 (fun z => z rfl)) (fun h169 => ?_)
          refine j_aload_n (i := 0) (t := 173) C d_M_canOf_172 rfl rfl (by first | exact jrv_r | exact jrv_n | exact jrv_f) rfl ?_
          refine j_get (t := 176) C fl_M_39 d_M_canOf_173 hM.1 rfl rfl ?_
          refine j_iload_n (i := 3) (t := 177) C d_M_canOf_176 rfl rfl rfl ?_
          refine j_ld_ms (i := g_sc s k) (t := 178) C d_M_canOf_177 hM (by first | rfl | simp only [nI_add, nI_mul, nI_1]) (by omega) (hkm) rfl ?_
          refine j_if_le (tgt := 185) (t := 181) C d_M_canOf_178 (by decide) rfl (fun h178 => ?_) (fun h178 => absurd h178 (fun z => z (Int32.not_lt.mp hm)))
          refine j_iconst (x := 0) (t := 186) C d_M_canOf_185 rfl rfl ?_
          refine j_istore (i := 6) (t := 188) (lv' := [(0, _), (1, _), (2, _), (3, _), (4, _), (5, _), (6, _)]) C d_M_canOf_186 (by decide) (by decide) rfl rfl ?_
          refine j_iload (t := 190) C d_M_canOf_188 rfl rfl ?_
          refine j_if_eq (tgt := 208) (t := 193) C d_M_canOf_190 (by decide) rfl (fun h190 => absurd h190 (by decide)) (fun h190 => ?_)
          refine j_aload_n (i := 0) (t := 194) C d_M_canOf_193 rfl rfl (by first | exact jrv_r | exact jrv_n | exact jrv_f) rfl ?_
          refine j_get (t := 197) C fl_M_36 d_M_canOf_194 hM.1 rfl rfl ?_
          refine j_iload_n (i := 3) (t := 198) C d_M_canOf_197 rfl rfl rfl ?_
          refine j_ld_rw (i := g_sc s k) (t := 199) C d_M_canOf_198 hM (by first | rfl | simp only [nI_add, nI_mul, nI_1]) (by omega) (hkr) rfl ?_
          refine j_aload_n (i := 0) (t := 200) C d_M_canOf_199 rfl rfl (by first | exact jrv_r | exact jrv_n | exact jrv_f) rfl ?_
          refine j_get (t := 203) C fl_M_39 d_M_canOf_200 hM.1 rfl rfl ?_
          refine j_iload_n (i := 3) (t := 204) C d_M_canOf_203 rfl rfl rfl ?_
          refine j_ld_ms (i := g_sc s k) (t := 205) C d_M_canOf_204 hM (by first | rfl | simp only [nI_add, nI_mul, nI_1]) (by omega) (hkm) rfl ?_
          refine j_icmp_ne (tgt := 211) (t := 208) C d_M_canOf_205 (by decide) rfl (fun h205 => ?_) (fun h205 => absurd h205 (fun z => absurd hs (by rw [z]; exact Int32.lt_irrefl)))
          obtain ⟨p, hp⟩ := Option.isSome_iff_exists.mp (q4 hs)
          exact tail p false _ _ hp (by rw [cAt_3 hK hkn, hoP, moL_s hp, moH_s hp, decide_eq_true hs, decide_eq_false hm]; rfl)
      · by_cases hm : 0 < g_km s (g_sc s k)
        · refine j_aload_n (i := 0) (t := 1) C d_M_canOf_0 rfl rfl (by first | exact jrv_r | exact jrv_n | exact jrv_f) rfl ?_
          refine j_get (t := 4) C fl_M_61 d_M_canOf_1 hM.1 rfl rfl ?_
          refine j_iload_n (i := 1) (t := 5) C d_M_canOf_4 rfl rfl rfl ?_
          refine j_ld_fi (i := k) (t := 6) C d_M_canOf_5 hM (by first | rfl | simp only [nI_add, nI_mul, nI_1]) (by omega) ((r_st k hk).2.1 hk5) rfl ?_
          refine j_istore_n (i := 2) (t := 7) (lv' := [(0, _), (1, _), (2, _)]) C d_M_canOf_6 rfl (by decide) (by decide) rfl rfl ?_
          refine j_aload_n (i := 0) (t := 8) C d_M_canOf_7 rfl rfl (by first | exact jrv_r | exact jrv_n | exact jrv_f) rfl ?_
          refine j_get (t := 11) C fl_M_58 d_M_canOf_8 hM.1 rfl rfl ?_
          refine j_iload_n (i := 1) (t := 12) C d_M_canOf_11 rfl rfl rfl ?_
          refine j_ld_kd (i := k) (t := 13) C d_M_canOf_12 hM (by first | rfl | simp only [nI_add, nI_mul, nI_1]) (by omega) ((r_st k hk).1.trans hK) rfl ?_
          refine j_iconst (x := 4) (t := 14) C d_M_canOf_13 rfl rfl ?_
          refine j_icmp_ne (tgt := 26) (t := 17) C d_M_canOf_14 (by decide) rfl (fun h14 => ?_) (fun h14 => absurd h14 (by decide))
          refine j_iload_n (i := 2) (t := 27) C d_M_canOf_26 rfl rfl rfl ?_
          refine j_istore_n (i := 3) (t := 28) (lv' := [(0, _), (1, _), (2, _), (3, _)]) C d_M_canOf_27 rfl (by decide) (by decide) rfl rfl ?_
          refine j_aload_n (i := 0) (t := 29) C d_M_canOf_28 rfl rfl (by first | exact jrv_r | exact jrv_n | exact jrv_f) rfl ?_
          refine j_get (t := 32) C fl_M_45 d_M_canOf_29 hM.1 rfl rfl ?_
          refine j_iload_n (i := 2) (t := 33) C d_M_canOf_32 rfl rfl rfl ?_
          refine j_ld_kn (i := g_sc s k) (t := 34) C d_M_canOf_33 hM (by first | rfl | simp only [nI_add, nI_mul, nI_1]) (by omega) (hknM) rfl ?_
          refine j_if_eq (tgt := 46) (t := 37) C d_M_canOf_34 (by decide) rfl (fun h34 => absurd h34 (by decide)) (fun h34 => ?_)
          refine j_aload_n (i := 0) (t := 38) C d_M_canOf_37 rfl rfl (by first | exact jrv_r | exact jrv_n | exact jrv_f) rfl ?_
          refine j_get (t := 41) C fl_M_45 d_M_canOf_38 hM.1 rfl rfl ?_
          refine j_iload_n (i := 3) (t := 42) C d_M_canOf_41 rfl rfl rfl ?_
          refine j_ld_kn (i := g_sc s k) (t := 43) C d_M_canOf_42 hM (by first | rfl | simp only [nI_add, nI_mul, nI_1]) (by omega) (hknM) rfl ?_
          refine j_if_ne (tgt := 63) (t := 46) C d_M_canOf_43 (by decide) rfl (fun h43 => ?_) (fun h43 => absurd h43 (by decide))
          refine j_aload_n (i := 0) (t := 64) C d_M_canOf_63 rfl rfl (by first | exact jrv_r | exact jrv_n | exact jrv_f) rfl ?_
          refine j_get (t := 67) C fl_M_39 d_M_canOf_64 hM.1 rfl rfl ?_
          refine j_iload_n (i := 2) (t := 68) C d_M_canOf_67 rfl rfl rfl ?_
          refine j_ld_ms (i := g_sc s k) (t := 69) C d_M_canOf_68 hM (by first | rfl | simp only [nI_add, nI_mul, nI_1]) (by omega) (hkm) rfl ?_
          refine j_if_le (tgt := 76) (t := 72) C d_M_canOf_69 (by decide) rfl (fun h69 => absurd h69 (Int32.not_le.mpr hm)) (fun h69 => ?_)
          refine j_iconst (x := 1) (t := 73) C d_M_canOf_72 rfl rfl ?_
          refine j_goto (tgt := 77) C d_M_canOf_73 (by decide) ?_
          refine j_istore (i := 4) (t := 79) (lv' := [(0, _), (1, _), (2, _), (3, _), (4, _)]) C d_M_canOf_77 (by decide) (by decide) rfl rfl ?_
          refine j_aload_n (i := 0) (t := 80) C d_M_canOf_79 rfl rfl (by first | exact jrv_r | exact jrv_n | exact jrv_f) rfl ?_
          refine j_get (t := 83) C fl_M_36 d_M_canOf_80 hM.1 rfl rfl ?_
          refine j_iload_n (i := 2) (t := 84) C d_M_canOf_83 rfl rfl rfl ?_
          refine j_ld_rw (i := g_sc s k) (t := 85) C d_M_canOf_84 hM (by first | rfl | simp only [nI_add, nI_mul, nI_1]) (by omega) (hkr) rfl ?_
          refine j_aload_n (i := 0) (t := 86) C d_M_canOf_85 rfl rfl (by first | exact jrv_r | exact jrv_n | exact jrv_f) rfl ?_
          refine j_get (t := 89) C fl_M_39 d_M_canOf_86 hM.1 rfl rfl ?_
          refine j_iload_n (i := 2) (t := 90) C d_M_canOf_89 rfl rfl rfl ?_
          refine j_ld_ms (i := g_sc s k) (t := 91) C d_M_canOf_90 hM (by first | rfl | simp only [nI_add, nI_mul, nI_1]) (by omega) (hkm) rfl ?_
          refine j_icmp_le (tgt := 98) (t := 94) C d_M_canOf_91 (by decide) rfl (fun h91 => ?_) (fun h91 => absurd h91 (fun z => z (Int32.not_lt.mp hs)))
          refine j_iconst (x := 0) (t := 99) C d_M_canOf_98 rfl rfl ?_
          refine j_istore (i := 5) (t := 101) (lv' := [(0, _), (1, _), (2, _), (3, _), (4, _), (5, _)]) C d_M_canOf_99 (by decide) (by decide) rfl rfl ?_
          refine j_aload_n (i := 0) (t := 102) C d_M_canOf_101 rfl rfl (by first | exact jrv_r | exact jrv_n | exact jrv_f) rfl ?_
          refine j_get (t := 105) C fl_M_58 d_M_canOf_102 hM.1 rfl rfl ?_
          refine j_iload_n (i := 1) (t := 106) C d_M_canOf_105 rfl rfl rfl ?_
          refine j_ld_kd (i := k) (t := 107) C d_M_canOf_106 hM (by first | rfl | simp only [nI_add, nI_mul, nI_1]) (by omega) ((r_st k hk).1.trans hK) rfl ?_
          refine j_iconst (x := 2) (t := 108) C d_M_canOf_107 rfl rfl ?_
          refine j_icmp_ge (tgt := 167) (t := 111) C d_M_canOf_108 (by decide) rfl (fun h108 => ?_) (fun h108 => absurd h108 (by decide))
          refine j_iload (t := 169) C d_M_canOf_167 rfl rfl ?_
          refine j_if_ne (tgt := 181) (t := 172) C d_M_canOf_169 (by decide) rfl (fun h169 => ?_) (fun h169 => absurd h169 (by decide))
          refine j_iconst (x := 4) (t := 182) C d_M_canOf_181 rfl rfl ?_
          refine j_goto (tgt := 186) C d_M_canOf_182 (by decide) ?_
          refine j_istore (i := 6) (t := 188) (lv' := [(0, _), (1, _), (2, _), (3, _), (4, _), (5, _), (6, _)]) C d_M_canOf_186 (by decide) (by decide) rfl rfl ?_
          refine j_iload (t := 190) C d_M_canOf_188 rfl rfl ?_
          refine j_if_eq (tgt := 208) (t := 193) C d_M_canOf_190 (by decide) rfl (fun h190 => ?_) (fun h190 => absurd h190 (fun z => z rfl))
          refine j_iload (t := 210) C d_M_canOf_208 rfl rfl ?_
          exact j_iret C d_M_canOf_210 (by first | rfl | exact nar_b) (⟨rfl, by rw [cAt_3 hK hkn, decide_eq_false hs, decide_eq_true hm]; first | rfl | (rw [Bool.true_or]; rfl)⟩) (by omega) (by omega)
        · refine j_aload_n (i := 0) (t := 1) C d_M_canOf_0 rfl rfl (by first | exact jrv_r | exact jrv_n | exact jrv_f) rfl ?_
          refine j_get (t := 4) C fl_M_61 d_M_canOf_1 hM.1 rfl rfl ?_
          refine j_iload_n (i := 1) (t := 5) C d_M_canOf_4 rfl rfl rfl ?_
          refine j_ld_fi (i := k) (t := 6) C d_M_canOf_5 hM (by first | rfl | simp only [nI_add, nI_mul, nI_1]) (by omega) ((r_st k hk).2.1 hk5) rfl ?_
          refine j_istore_n (i := 2) (t := 7) (lv' := [(0, _), (1, _), (2, _)]) C d_M_canOf_6 rfl (by decide) (by decide) rfl rfl ?_
          refine j_aload_n (i := 0) (t := 8) C d_M_canOf_7 rfl rfl (by first | exact jrv_r | exact jrv_n | exact jrv_f) rfl ?_
          refine j_get (t := 11) C fl_M_58 d_M_canOf_8 hM.1 rfl rfl ?_
          refine j_iload_n (i := 1) (t := 12) C d_M_canOf_11 rfl rfl rfl ?_
          refine j_ld_kd (i := k) (t := 13) C d_M_canOf_12 hM (by first | rfl | simp only [nI_add, nI_mul, nI_1]) (by omega) ((r_st k hk).1.trans hK) rfl ?_
          refine j_iconst (x := 4) (t := 14) C d_M_canOf_13 rfl rfl ?_
          refine j_icmp_ne (tgt := 26) (t := 17) C d_M_canOf_14 (by decide) rfl (fun h14 => ?_) (fun h14 => absurd h14 (by decide))
          refine j_iload_n (i := 2) (t := 27) C d_M_canOf_26 rfl rfl rfl ?_
          refine j_istore_n (i := 3) (t := 28) (lv' := [(0, _), (1, _), (2, _), (3, _)]) C d_M_canOf_27 rfl (by decide) (by decide) rfl rfl ?_
          refine j_aload_n (i := 0) (t := 29) C d_M_canOf_28 rfl rfl (by first | exact jrv_r | exact jrv_n | exact jrv_f) rfl ?_
          refine j_get (t := 32) C fl_M_45 d_M_canOf_29 hM.1 rfl rfl ?_
          refine j_iload_n (i := 2) (t := 33) C d_M_canOf_32 rfl rfl rfl ?_
          refine j_ld_kn (i := g_sc s k) (t := 34) C d_M_canOf_33 hM (by first | rfl | simp only [nI_add, nI_mul, nI_1]) (by omega) (hknM) rfl ?_
          refine j_if_eq (tgt := 46) (t := 37) C d_M_canOf_34 (by decide) rfl (fun h34 => absurd h34 (by decide)) (fun h34 => ?_)
          refine j_aload_n (i := 0) (t := 38) C d_M_canOf_37 rfl rfl (by first | exact jrv_r | exact jrv_n | exact jrv_f) rfl ?_
          refine j_get (t := 41) C fl_M_45 d_M_canOf_38 hM.1 rfl rfl ?_
          refine j_iload_n (i := 3) (t := 42) C d_M_canOf_41 rfl rfl rfl ?_
          refine j_ld_kn (i := g_sc s k) (t := 43) C d_M_canOf_42 hM (by first | rfl | simp only [nI_add, nI_mul, nI_1]) (by omega) (hknM) rfl ?_
          refine j_if_ne (tgt := 63) (t := 46) C d_M_canOf_43 (by decide) rfl (fun h43 => ?_) (fun h43 => absurd h43 (by decide))
          refine j_aload_n (i := 0) (t := 64) C d_M_canOf_63 rfl rfl (by first | exact jrv_r | exact jrv_n | exact jrv_f) rfl ?_
          refine j_get (t := 67) C fl_M_39 d_M_canOf_64 hM.1 rfl rfl ?_
          refine j_iload_n (i := 2) (t := 68) C d_M_canOf_67 rfl rfl rfl ?_
          refine j_ld_ms (i := g_sc s k) (t := 69) C d_M_canOf_68 hM (by first | rfl | simp only [nI_add, nI_mul, nI_1]) (by omega) (hkm) rfl ?_
          refine j_if_le (tgt := 76) (t := 72) C d_M_canOf_69 (by decide) rfl (fun h69 => ?_) (fun h69 => absurd h69 (fun z => z (Int32.not_lt.mp hm)))
          refine j_iconst (x := 0) (t := 77) C d_M_canOf_76 rfl rfl ?_
          refine j_istore (i := 4) (t := 79) (lv' := [(0, _), (1, _), (2, _), (3, _), (4, _)]) C d_M_canOf_77 (by decide) (by decide) rfl rfl ?_
          refine j_aload_n (i := 0) (t := 80) C d_M_canOf_79 rfl rfl (by first | exact jrv_r | exact jrv_n | exact jrv_f) rfl ?_
          refine j_get (t := 83) C fl_M_36 d_M_canOf_80 hM.1 rfl rfl ?_
          refine j_iload_n (i := 2) (t := 84) C d_M_canOf_83 rfl rfl rfl ?_
          refine j_ld_rw (i := g_sc s k) (t := 85) C d_M_canOf_84 hM (by first | rfl | simp only [nI_add, nI_mul, nI_1]) (by omega) (hkr) rfl ?_
          refine j_aload_n (i := 0) (t := 86) C d_M_canOf_85 rfl rfl (by first | exact jrv_r | exact jrv_n | exact jrv_f) rfl ?_
          refine j_get (t := 89) C fl_M_39 d_M_canOf_86 hM.1 rfl rfl ?_
          refine j_iload_n (i := 2) (t := 90) C d_M_canOf_89 rfl rfl rfl ?_
          refine j_ld_ms (i := g_sc s k) (t := 91) C d_M_canOf_90 hM (by first | rfl | simp only [nI_add, nI_mul, nI_1]) (by omega) (hkm) rfl ?_
          refine j_icmp_le (tgt := 98) (t := 94) C d_M_canOf_91 (by decide) rfl (fun h91 => ?_) (fun h91 => absurd h91 (fun z => z (Int32.not_lt.mp hs)))
          refine j_iconst (x := 0) (t := 99) C d_M_canOf_98 rfl rfl ?_
          refine j_istore (i := 5) (t := 101) (lv' := [(0, _), (1, _), (2, _), (3, _), (4, _), (5, _)]) C d_M_canOf_99 (by decide) (by decide) rfl rfl ?_
          refine j_aload_n (i := 0) (t := 102) C d_M_canOf_101 rfl rfl (by first | exact jrv_r | exact jrv_n | exact jrv_f) rfl ?_
          refine j_get (t := 105) C fl_M_58 d_M_canOf_102 hM.1 rfl rfl ?_
          refine j_iload_n (i := 1) (t := 106) C d_M_canOf_105 rfl rfl rfl ?_
          refine j_ld_kd (i := k) (t := 107) C d_M_canOf_106 hM (by first | rfl | simp only [nI_add, nI_mul, nI_1]) (by omega) ((r_st k hk).1.trans hK) rfl ?_
          refine j_iconst (x := 2) (t := 108) C d_M_canOf_107 rfl rfl ?_
          refine j_icmp_ge (tgt := 167) (t := 111) C d_M_canOf_108 (by decide) rfl (fun h108 => ?_) (fun h108 => absurd h108 (by decide))
          refine j_iload (t := 169) C d_M_canOf_167 rfl rfl ?_
          refine j_if_ne (tgt := 181) (t := 172) C d_M_canOf_169 (by decide) rfl (fun h169 => absurd h169 (fun z => z rfl)) (fun h169 => ?_)
          refine j_aload_n (i := 0) (t := 173) C d_M_canOf_172 rfl rfl (by first | exact jrv_r | exact jrv_n | exact jrv_f) rfl ?_
          refine j_get (t := 176) C fl_M_39 d_M_canOf_173 hM.1 rfl rfl ?_
          refine j_iload_n (i := 3) (t := 177) C d_M_canOf_176 rfl rfl rfl ?_
          refine j_ld_ms (i := g_sc s k) (t := 178) C d_M_canOf_177 hM (by first | rfl | simp only [nI_add, nI_mul, nI_1]) (by omega) (hkm) rfl ?_
          refine j_if_le (tgt := 185) (t := 181) C d_M_canOf_178 (by decide) rfl (fun h178 => ?_) (fun h178 => absurd h178 (fun z => z (Int32.not_lt.mp hm)))
          refine j_iconst (x := 0) (t := 186) C d_M_canOf_185 rfl rfl ?_
          refine j_istore (i := 6) (t := 188) (lv' := [(0, _), (1, _), (2, _), (3, _), (4, _), (5, _), (6, _)]) C d_M_canOf_186 (by decide) (by decide) rfl rfl ?_
          refine j_iload (t := 190) C d_M_canOf_188 rfl rfl ?_
          refine j_if_eq (tgt := 208) (t := 193) C d_M_canOf_190 (by decide) rfl (fun h190 => ?_) (fun h190 => absurd h190 (fun z => z rfl))
          refine j_iload (t := 210) C d_M_canOf_208 rfl rfl ?_
          exact j_iret C d_M_canOf_210 (by first | rfl | exact nar_b) (⟨rfl, by rw [cAt_3 hK hkn, decide_eq_false hs, decide_eq_false hm]; first | rfl | (rw [Bool.true_or]; rfl)⟩) (by omega) (by omega)
  · obtain ⟨-, ⟨ho1, ho5⟩, P, eP, hoP, hPl, hlt⟩ := st_4 hW hk hK
    have hknM2 := (r_col P hPl).2.2.2.2.1
    cases hkn : g_kn s (g_sc s k) with
    | false =>
      rw [hkn] at hknM
      refine j_aload_n (i := 0) (t := 1) C d_M_canOf_0 rfl rfl (by first | exact jrv_r | exact jrv_n | exact jrv_f) rfl ?_
      refine j_get (t := 4) C fl_M_61 d_M_canOf_1 hM.1 rfl rfl ?_
      refine j_iload_n (i := 1) (t := 5) C d_M_canOf_4 rfl rfl rfl ?_
      refine j_ld_fi (i := k) (t := 6) C d_M_canOf_5 hM (by first | rfl | simp only [nI_add, nI_mul, nI_1]) (by omega) ((r_st k hk).2.1 hk5) rfl ?_
      refine j_istore_n (i := 2) (t := 7) (lv' := [(0, _), (1, _), (2, _)]) C d_M_canOf_6 rfl (by decide) (by decide) rfl rfl ?_
      refine j_aload_n (i := 0) (t := 8) C d_M_canOf_7 rfl rfl (by first | exact jrv_r | exact jrv_n | exact jrv_f) rfl ?_
      refine j_get (t := 11) C fl_M_58 d_M_canOf_8 hM.1 rfl rfl ?_
      refine j_iload_n (i := 1) (t := 12) C d_M_canOf_11 rfl rfl rfl ?_
      refine j_ld_kd (i := k) (t := 13) C d_M_canOf_12 hM (by first | rfl | simp only [nI_add, nI_mul, nI_1]) (by omega) ((r_st k hk).1.trans hK) rfl ?_
      refine j_iconst (x := 4) (t := 14) C d_M_canOf_13 rfl rfl ?_
      refine j_icmp_ne (tgt := 26) (t := 17) C d_M_canOf_14 (by decide) rfl (fun h14 => absurd h14 (by decide)) (fun h14 => ?_)
      refine j_aload_n (i := 0) (t := 18) C d_M_canOf_17 rfl rfl (by first | exact jrv_r | exact jrv_n | exact jrv_f) rfl ?_
      refine j_get (t := 21) C fl_M_67 d_M_canOf_18 hM.1 rfl rfl ?_
      refine j_iload_n (i := 1) (t := 22) C d_M_canOf_21 rfl rfl rfl ?_
      refine j_ld_ot (i := k) (t := 23) C d_M_canOf_22 hM (by first | rfl | simp only [nI_add, nI_mul, nI_1]) (by omega) ((r_st k hk).2.2.2.1.trans eP) rfl ?_
      refine j_goto (tgt := 27) C d_M_canOf_23 (by decide) ?_
      refine j_istore_n (i := 3) (t := 28) (lv' := [(0, _), (1, _), (2, _), (3, _)]) C d_M_canOf_27 rfl (by decide) (by decide) rfl rfl ?_
      refine j_aload_n (i := 0) (t := 29) C d_M_canOf_28 rfl rfl (by first | exact jrv_r | exact jrv_n | exact jrv_f) rfl ?_
      refine j_get (t := 32) C fl_M_45 d_M_canOf_29 hM.1 rfl rfl ?_
      refine j_iload_n (i := 2) (t := 33) C d_M_canOf_32 rfl rfl rfl ?_
      refine j_ld_kn (i := g_sc s k) (t := 34) C d_M_canOf_33 hM (by first | rfl | simp only [nI_add, nI_mul, nI_1]) (by omega) (hknM) rfl ?_
      refine j_if_eq (tgt := 46) (t := 37) C d_M_canOf_34 (by decide) rfl (fun h34 => ?_) (fun h34 => absurd h34 (fun z => z rfl))
      refine j_aload_n (i := 0) (t := 47) C d_M_canOf_46 rfl rfl (by first | exact jrv_r | exact jrv_n | exact jrv_f) rfl ?_
      refine j_get (t := 50) C fl_M_58 d_M_canOf_47 hM.1 rfl rfl ?_
      refine j_iload_n (i := 1) (t := 51) C d_M_canOf_50 rfl rfl rfl ?_
      refine j_ld_kd (i := k) (t := 52) C d_M_canOf_51 hM (by first | rfl | simp only [nI_add, nI_mul, nI_1]) (by omega) ((r_st k hk).1.trans hK) rfl ?_
      refine j_iconst (x := 2) (t := 53) C d_M_canOf_52 rfl rfl ?_
      refine j_icmp_ge (tgt := 60) (t := 56) C d_M_canOf_53 (by decide) rfl (fun h53 => ?_) (fun h53 => absurd h53 (by decide))
      refine j_bipush (x := nI 7) (t := 62) C d_M_canOf_60 rfl rfl ?_
      exact j_iret C d_M_canOf_62 (by first | rfl | exact nar_b) (⟨rfl, by rw [cAt_u2 (Or.inr (Or.inr hK)) hkn]; rfl⟩) (by omega) (by omega)
    | true =>
      rw [hkn] at hknM
      have hknn := (r_col _ hsc).2.2.2.2.2 hkn
      have hkr := hknn.1
      have hkm := hknn.2.1
      obtain ⟨q1, q2, q3, q4, -⟩ := (wcol _ hsc).2.2.2.2 hkn
      cases hkn2 : g_kn s P with
      | false =>
        rw [hkn2] at hknM2
        refine j_aload_n (i := 0) (t := 1) C d_M_canOf_0 rfl rfl (by first | exact jrv_r | exact jrv_n | exact jrv_f) rfl ?_
        refine j_get (t := 4) C fl_M_61 d_M_canOf_1 hM.1 rfl rfl ?_
        refine j_iload_n (i := 1) (t := 5) C d_M_canOf_4 rfl rfl rfl ?_
        refine j_ld_fi (i := k) (t := 6) C d_M_canOf_5 hM (by first | rfl | simp only [nI_add, nI_mul, nI_1]) (by omega) ((r_st k hk).2.1 hk5) rfl ?_
        refine j_istore_n (i := 2) (t := 7) (lv' := [(0, _), (1, _), (2, _)]) C d_M_canOf_6 rfl (by decide) (by decide) rfl rfl ?_
        refine j_aload_n (i := 0) (t := 8) C d_M_canOf_7 rfl rfl (by first | exact jrv_r | exact jrv_n | exact jrv_f) rfl ?_
        refine j_get (t := 11) C fl_M_58 d_M_canOf_8 hM.1 rfl rfl ?_
        refine j_iload_n (i := 1) (t := 12) C d_M_canOf_11 rfl rfl rfl ?_
        refine j_ld_kd (i := k) (t := 13) C d_M_canOf_12 hM (by first | rfl | simp only [nI_add, nI_mul, nI_1]) (by omega) ((r_st k hk).1.trans hK) rfl ?_
        refine j_iconst (x := 4) (t := 14) C d_M_canOf_13 rfl rfl ?_
        refine j_icmp_ne (tgt := 26) (t := 17) C d_M_canOf_14 (by decide) rfl (fun h14 => absurd h14 (by decide)) (fun h14 => ?_)
        refine j_aload_n (i := 0) (t := 18) C d_M_canOf_17 rfl rfl (by first | exact jrv_r | exact jrv_n | exact jrv_f) rfl ?_
        refine j_get (t := 21) C fl_M_67 d_M_canOf_18 hM.1 rfl rfl ?_
        refine j_iload_n (i := 1) (t := 22) C d_M_canOf_21 rfl rfl rfl ?_
        refine j_ld_ot (i := k) (t := 23) C d_M_canOf_22 hM (by first | rfl | simp only [nI_add, nI_mul, nI_1]) (by omega) ((r_st k hk).2.2.2.1.trans eP) rfl ?_
        refine j_goto (tgt := 27) C d_M_canOf_23 (by decide) ?_
        refine j_istore_n (i := 3) (t := 28) (lv' := [(0, _), (1, _), (2, _), (3, _)]) C d_M_canOf_27 rfl (by decide) (by decide) rfl rfl ?_
        refine j_aload_n (i := 0) (t := 29) C d_M_canOf_28 rfl rfl (by first | exact jrv_r | exact jrv_n | exact jrv_f) rfl ?_
        refine j_get (t := 32) C fl_M_45 d_M_canOf_29 hM.1 rfl rfl ?_
        refine j_iload_n (i := 2) (t := 33) C d_M_canOf_32 rfl rfl rfl ?_
        refine j_ld_kn (i := g_sc s k) (t := 34) C d_M_canOf_33 hM (by first | rfl | simp only [nI_add, nI_mul, nI_1]) (by omega) (hknM) rfl ?_
        refine j_if_eq (tgt := 46) (t := 37) C d_M_canOf_34 (by decide) rfl (fun h34 => absurd h34 (by decide)) (fun h34 => ?_)
        refine j_aload_n (i := 0) (t := 38) C d_M_canOf_37 rfl rfl (by first | exact jrv_r | exact jrv_n | exact jrv_f) rfl ?_
        refine j_get (t := 41) C fl_M_45 d_M_canOf_38 hM.1 rfl rfl ?_
        refine j_iload_n (i := 3) (t := 42) C d_M_canOf_41 rfl rfl rfl ?_
        refine j_ld_kn (i := P) (t := 43) C d_M_canOf_42 hM (by first | rfl | simp only [nI_add, nI_mul, nI_1]) (by omega) (hknM2) rfl ?_
        refine j_if_ne (tgt := 63) (t := 46) C d_M_canOf_43 (by decide) rfl (fun h43 => absurd h43 (fun z => z rfl)) (fun h43 => ?_)
        refine j_aload_n (i := 0) (t := 47) C d_M_canOf_46 rfl rfl (by first | exact jrv_r | exact jrv_n | exact jrv_f) rfl ?_
        refine j_get (t := 50) C fl_M_58 d_M_canOf_47 hM.1 rfl rfl ?_
        refine j_iload_n (i := 1) (t := 51) C d_M_canOf_50 rfl rfl rfl ?_
        refine j_ld_kd (i := k) (t := 52) C d_M_canOf_51 hM (by first | rfl | simp only [nI_add, nI_mul, nI_1]) (by omega) ((r_st k hk).1.trans hK) rfl ?_
        refine j_iconst (x := 2) (t := 53) C d_M_canOf_52 rfl rfl ?_
        refine j_icmp_ge (tgt := 60) (t := 56) C d_M_canOf_53 (by decide) rfl (fun h53 => ?_) (fun h53 => absurd h53 (by decide))
        refine j_bipush (x := nI 7) (t := 62) C d_M_canOf_60 rfl rfl ?_
        exact j_iret C d_M_canOf_62 (by first | rfl | exact nar_b) (⟨rfl, by rw [cAt_u4 hK (by rw [hoP]; exact hkn2)]; rfl⟩) (by omega) (by omega)
      | true =>
        rw [hkn2] at hknM2
        have hknn2 := (r_col P hPl).2.2.2.2.2 hkn2
        have hkr2 := hknn2.1
        have hkm2 := hknn2.2.1
        obtain ⟨p1, p2, p3, p4, -⟩ := (wcol P hPl).2.2.2.2 hkn2
        have tail : ∀ (p p2 : jv × jv) (u : Bool) (a4 a5 : Int32), g_mo s (g_sc s k) = some p → g_mo s P = some p2 → cAt s k = trS (cH (cO (g_so s k)) p.1 p.2 p2.1 p2.2) (cH (g_so s k) p.1 p.2 p2.1 p2.2) u → J X (9, 99) (jQ X (fun r w' => w' = w ∧ r = some (.int (cAt s k))) 0 0) w 0 0 211 [(0, .ref o), (1, .int (nI k)), (2, .int (nI (g_sc s k))), (3, .int (nI (P))), (4, .int a4), (5, .int a5), (6, .int (bif u then 4 else 0))] [] := by
          intro p p2 u a4 a5 hmo hmo2 hcu
          have fin : ∀ (y n : Bool), y = (cH (g_so s k) p.1 p.2 p2.1 p2.2) → n = (cH (cO (g_so s k)) p.1 p.2 p2.1 p2.2) → J X (9, 99) (jQ X (fun r w' => w' = w ∧ r = some (.int (cAt s k))) 0 0) w 0 0 413 [(0, .ref o), (1, .int (nI k)), (2, .int (nI (g_sc s k))), (3, .int (nI (P))), (4, .int a4), (5, .int a5), (6, .int (bif u then 4 else 0)), (7, .int (bI y)), (8, .int (bI n))] [] := by
            intro y n hy hn
            refine j_iload (t := 415) C d_M_canOf_413 rfl rfl ?_
            refine j_iload (t := 417) C d_M_canOf_415 rfl rfl ?_
            refine j_if_eq (tgt := 424) (t := 420) C d_M_canOf_417 (by decide) rfl (fun h417 => ?_) (fun h417 => ?_)
            · refine j_iconst (x := 0) (t := 425) C d_M_canOf_424 rfl rfl ?_
              refine j_iadd (t := 426) C d_M_canOf_425 rfl ?_
              refine j_iload (t := 428) C d_M_canOf_426 rfl rfl ?_
              refine j_if_eq (tgt := 435) (t := 431) C d_M_canOf_428 (by decide) rfl (fun h428 => ?_) (fun h428 => ?_)
              · refine j_iconst (x := 0) (t := 436) C d_M_canOf_435 rfl rfl ?_
                refine j_iadd (t := 437) C d_M_canOf_436 rfl ?_
                exact j_iret C d_M_canOf_437 (by first | rfl | exact nar_b) (⟨rfl, by simp only [bI_0, Bool.not_eq_false] at h417 h428; rw [hcu, ← hy, ← hn, trS_sum, h417, h428]; rfl⟩) (by omega) (by omega)
              · refine j_iconst (x := 1) (t := 432) C d_M_canOf_431 rfl rfl ?_
                refine j_goto (tgt := 436) C d_M_canOf_432 (by decide) ?_
                refine j_iadd (t := 437) C d_M_canOf_436 rfl ?_
                exact j_iret C d_M_canOf_437 (by first | rfl | exact nar_b) (⟨rfl, by simp only [bI_0, Bool.not_eq_false] at h417 h428; rw [hcu, ← hy, ← hn, trS_sum, h417, h428]; rfl⟩) (by omega) (by omega)
            · refine j_iconst (x := 2) (t := 421) C d_M_canOf_420 rfl rfl ?_
              refine j_goto (tgt := 425) C d_M_canOf_421 (by decide) ?_
              refine j_iadd (t := 426) C d_M_canOf_425 rfl ?_
              refine j_iload (t := 428) C d_M_canOf_426 rfl rfl ?_
              refine j_if_eq (tgt := 435) (t := 431) C d_M_canOf_428 (by decide) rfl (fun h428 => ?_) (fun h428 => ?_)
              · refine j_iconst (x := 0) (t := 436) C d_M_canOf_435 rfl rfl ?_
                refine j_iadd (t := 437) C d_M_canOf_436 rfl ?_
                exact j_iret C d_M_canOf_437 (by first | rfl | exact nar_b) (⟨rfl, by simp only [bI_0, Bool.not_eq_false] at h417 h428; rw [hcu, ← hy, ← hn, trS_sum, h417, h428]; rfl⟩) (by omega) (by omega)
              · refine j_iconst (x := 1) (t := 432) C d_M_canOf_431 rfl rfl ?_
                refine j_goto (tgt := 436) C d_M_canOf_432 (by decide) ?_
                refine j_iadd (t := 437) C d_M_canOf_436 rfl ?_
                exact j_iret C d_M_canOf_437 (by first | rfl | exact nar_b) (⟨rfl, by simp only [bI_0, Bool.not_eq_false] at h417 h428; rw [hcu, ← hy, ← hn, trS_sum, h417, h428]; rfl⟩) (by omega) (by omega)
          have nos : ∀ (y : Bool) (a8 : Int32), y = (cH (g_so s k) p.1 p.2 p2.1 p2.2) → J X (9, 99) (jQ X (fun r w' => w' = w ∧ r = some (.int (cAt s k))) 0 0) w 0 0 341 [(0, .ref o), (1, .int (nI k)), (2, .int (nI (g_sc s k))), (3, .int (nI (P))), (4, .int a4), (5, .int a5), (6, .int (bif u then 4 else 0)), (7, .int (bI y)), (8, .int a8)] [] := by
            intro y a8 hy
            refine j_aload_n (i := 0) (t := 342) C d_M_canOf_341 rfl rfl (by first | exact jrv_r | exact jrv_n | exact jrv_f) rfl ?_
            refine j_get (t := 345) C fl_M_58 d_M_canOf_342 hM.1 rfl rfl ?_
            refine j_iload_n (i := 1) (t := 346) C d_M_canOf_345 rfl rfl rfl ?_
            refine j_ld_kd (i := k) (t := 347) C d_M_canOf_346 hM (by first | rfl | simp only [nI_add, nI_mul, nI_1]) (by omega) ((r_st k hk).1.trans hK) rfl ?_
            refine j_iconst (x := 4) (t := 348) C d_M_canOf_347 rfl rfl ?_
            refine j_icmp_ne (tgt := 369) (t := 351) C d_M_canOf_348 (by decide) rfl (fun h348 => absurd h348 (by decide)) (fun h348 => ?_)
            refine j_aload_n (i := 0) (t := 352) C d_M_canOf_351 rfl rfl (by first | exact jrv_r | exact jrv_n | exact jrv_f) rfl ?_
            refine j_iload_n (i := 2) (t := 353) C d_M_canOf_352 rfl rfl rfl ?_
            refine j_aload_n (i := 0) (t := 354) C d_M_canOf_353 rfl rfl (by first | exact jrv_r | exact jrv_n | exact jrv_f) rfl ?_
            refine j_get (t := 357) C fl_M_64 d_M_canOf_354 hM.1 rfl rfl ?_
            refine j_iload_n (i := 1) (t := 358) C d_M_canOf_357 rfl rfl rfl ?_
            refine j_ld_op (i := k) (t := 359) C d_M_canOf_358 hM (by first | rfl | simp only [nI_add, nI_mul, nI_1]) (by omega) ((r_st k hk).2.2.1) rfl ?_
            refine j_callS (As := [_]) (t := 362) C (c_M_contrary _ (g_so s k)) d_M_canOf_359 jb_M_contrary ml_M_169 st_M_contrary rfl (Nat.le_of_ble_eq_true rfl) (by decide) (by omega) (by omega) (rfl) rfl (fun r359 w359 p359 => ?_)
            obtain ⟨rfl, rfl⟩ := p359
            dsimp only [jst]
            refine j_iload_n (i := 3) (t := 363) C d_M_canOf_362 rfl rfl rfl ?_
            refine j_callV (As := [_, _, _]) (t := 366) C (c_M_mayMeet _ o q m s (g_sc s k) P (cO (g_so s k)) p p2) d_M_canOf_363 jb_M_mayMeet ml_M_163 jv_M_mayMeet hM.1 rfl rfl rfl (Nat.le_of_ble_eq_true rfl) (by decide) (by omega) (by omega) (⟨⟨rfl, hM, hR, hW⟩, ⟨hsc, hkn, hmo⟩, ⟨hPl, hkn2, hmo2⟩, hlt, cO_5 ho1 ho5⟩) rfl (fun r363 w363 p363 => ?_)
            obtain ⟨rfl, rfl⟩ := p363
            dsimp only [jst]
            refine j_goto (tgt := 411) C d_M_canOf_366 (by decide) ?_
            refine j_istore (i := 8) (t := 413) (lv' := [(0, _), (1, _), (2, _), (3, _), (4, _), (5, _), (6, _), (7, _), (8, _)]) C d_M_canOf_411 (by decide) (by decide) rfl rfl ?_
            exact fin y _ hy rfl
          refine j_aload_n (i := 0) (t := 212) C d_M_canOf_211 rfl rfl (by first | exact jrv_r | exact jrv_n | exact jrv_f) rfl ?_
          refine j_get (t := 215) C fl_M_58 d_M_canOf_212 hM.1 rfl rfl ?_
          refine j_iload_n (i := 1) (t := 216) C d_M_canOf_215 rfl rfl rfl ?_
          refine j_ld_kd (i := k) (t := 217) C d_M_canOf_216 hM (by first | rfl | simp only [nI_add, nI_mul, nI_1]) (by omega) ((r_st k hk).1.trans hK) rfl ?_
          refine j_iconst (x := 4) (t := 218) C d_M_canOf_217 rfl rfl ?_
          refine j_icmp_ne (tgt := 236) (t := 221) C d_M_canOf_218 (by decide) rfl (fun h218 => absurd h218 (by decide)) (fun h218 => ?_)
          refine j_aload_n (i := 0) (t := 222) C d_M_canOf_221 rfl rfl (by first | exact jrv_r | exact jrv_n | exact jrv_f) rfl ?_
          refine j_iload_n (i := 2) (t := 223) C d_M_canOf_222 rfl rfl rfl ?_
          refine j_aload_n (i := 0) (t := 224) C d_M_canOf_223 rfl rfl (by first | exact jrv_r | exact jrv_n | exact jrv_f) rfl ?_
          refine j_get (t := 227) C fl_M_64 d_M_canOf_224 hM.1 rfl rfl ?_
          refine j_iload_n (i := 1) (t := 228) C d_M_canOf_227 rfl rfl rfl ?_
          refine j_ld_op (i := k) (t := 229) C d_M_canOf_228 hM (by first | rfl | simp only [nI_add, nI_mul, nI_1]) (by omega) ((r_st k hk).2.2.1) rfl ?_
          refine j_iload_n (i := 3) (t := 230) C d_M_canOf_229 rfl rfl rfl ?_
          refine j_callV (As := [_, _, _]) (t := 233) C (c_M_mayMeet _ o q m s (g_sc s k) P (g_so s k) p p2) d_M_canOf_230 jb_M_mayMeet ml_M_163 jv_M_mayMeet hM.1 rfl rfl rfl (Nat.le_of_ble_eq_true rfl) (by decide) (by omega) (by omega) (⟨⟨rfl, hM, hR, hW⟩, ⟨hsc, hkn, hmo⟩, ⟨hPl, hkn2, hmo2⟩, hlt, ⟨ho1, ho5⟩⟩) rfl (fun r230 w230 p230 => ?_)
          obtain ⟨rfl, rfl⟩ := p230
          dsimp only [jst]
          refine j_goto (tgt := 275) C d_M_canOf_233 (by decide) ?_
          refine j_istore (i := 7) (t := 277) (lv' := [(0, _), (1, _), (2, _), (3, _), (4, _), (5, _), (6, _), (7, _)]) C d_M_canOf_275 (by decide) (by decide) rfl rfl ?_
          refine j_iconst (x := 0) (t := 278) C d_M_canOf_277 rfl rfl ?_
          refine j_istore (i := 8) (t := 280) (lv' := [(0, _), (1, _), (2, _), (3, _), (4, _), (5, _), (6, _), (7, _), (8, _)]) C d_M_canOf_278 (by decide) (by decide) rfl rfl ?_
          refine j_iload (t := 282) C d_M_canOf_280 rfl rfl ?_
          refine j_aload_n (i := 0) (t := 283) C d_M_canOf_282 rfl rfl (by first | exact jrv_r | exact jrv_n | exact jrv_f) rfl ?_
          refine j_get (t := 286) C fl_M_70 d_M_canOf_283 hM.1 rfl rfl ?_
          refine j_iload_n (i := 1) (t := 287) C d_M_canOf_286 rfl rfl rfl ?_
          refine j_ld_mn (i := k) (t := 288) C d_M_canOf_287 hM (by first | rfl | simp only [nI_add, nI_mul, nI_1]) (by omega) rfl rfl ?_
          refine j_icmp_ge (tgt := 341) (t := 291) C d_M_canOf_288 (by decide) rfl (fun h288 => ?_) (fun h288 => ?_)
          · exact nos _ _ rfl
          · refine j_aload_n (i := 0) (t := 292) C d_M_canOf_291 rfl rfl (by first | exact jrv_r | exact jrv_n | exact jrv_f) rfl ?_
            refine j_get (t := 295) C fl_M_58 d_M_canOf_292 hM.1 rfl rfl ?_
            refine j_iload_n (i := 1) (t := 296) C d_M_canOf_295 rfl rfl rfl ?_
            refine j_ld_kd (i := k) (t := 297) C d_M_canOf_296 hM (by first | rfl | simp only [nI_add, nI_mul, nI_1]) (by omega) ((r_st k hk).1.trans hK) rfl ?_
            refine j_iconst (x := 2) (t := 298) C d_M_canOf_297 rfl rfl ?_
            refine j_icmp_ne (tgt := 341) (t := 301) C d_M_canOf_298 (by decide) rfl (fun h298 => ?_) (fun h298 => absurd h298 (by decide))
            exact nos _ _ rfl
        by_cases hs : g_km s (g_sc s k) < g_kr s (g_sc s k)
        · by_cases hs2 : g_km s P < g_kr s P
          · by_cases hm : 0 < g_km s (g_sc s k)
            · refine j_aload_n (i := 0) (t := 1) C d_M_canOf_0 rfl rfl (by first | exact jrv_r | exact jrv_n | exact jrv_f) rfl ?_
              refine j_get (t := 4) C fl_M_61 d_M_canOf_1 hM.1 rfl rfl ?_
              refine j_iload_n (i := 1) (t := 5) C d_M_canOf_4 rfl rfl rfl ?_
              refine j_ld_fi (i := k) (t := 6) C d_M_canOf_5 hM (by first | rfl | simp only [nI_add, nI_mul, nI_1]) (by omega) ((r_st k hk).2.1 hk5) rfl ?_
              refine j_istore_n (i := 2) (t := 7) (lv' := [(0, _), (1, _), (2, _)]) C d_M_canOf_6 rfl (by decide) (by decide) rfl rfl ?_
              refine j_aload_n (i := 0) (t := 8) C d_M_canOf_7 rfl rfl (by first | exact jrv_r | exact jrv_n | exact jrv_f) rfl ?_
              refine j_get (t := 11) C fl_M_58 d_M_canOf_8 hM.1 rfl rfl ?_
              refine j_iload_n (i := 1) (t := 12) C d_M_canOf_11 rfl rfl rfl ?_
              refine j_ld_kd (i := k) (t := 13) C d_M_canOf_12 hM (by first | rfl | simp only [nI_add, nI_mul, nI_1]) (by omega) ((r_st k hk).1.trans hK) rfl ?_
              refine j_iconst (x := 4) (t := 14) C d_M_canOf_13 rfl rfl ?_
              refine j_icmp_ne (tgt := 26) (t := 17) C d_M_canOf_14 (by decide) rfl (fun h14 => absurd h14 (by decide)) (fun h14 => ?_)
              refine j_aload_n (i := 0) (t := 18) C d_M_canOf_17 rfl rfl (by first | exact jrv_r | exact jrv_n | exact jrv_f) rfl ?_
              refine j_get (t := 21) C fl_M_67 d_M_canOf_18 hM.1 rfl rfl ?_
              refine j_iload_n (i := 1) (t := 22) C d_M_canOf_21 rfl rfl rfl ?_
              refine j_ld_ot (i := k) (t := 23) C d_M_canOf_22 hM (by first | rfl | simp only [nI_add, nI_mul, nI_1]) (by omega) ((r_st k hk).2.2.2.1.trans eP) rfl ?_
              refine j_goto (tgt := 27) C d_M_canOf_23 (by decide) ?_
              refine j_istore_n (i := 3) (t := 28) (lv' := [(0, _), (1, _), (2, _), (3, _)]) C d_M_canOf_27 rfl (by decide) (by decide) rfl rfl ?_
              refine j_aload_n (i := 0) (t := 29) C d_M_canOf_28 rfl rfl (by first | exact jrv_r | exact jrv_n | exact jrv_f) rfl ?_
              refine j_get (t := 32) C fl_M_45 d_M_canOf_29 hM.1 rfl rfl ?_
              refine j_iload_n (i := 2) (t := 33) C d_M_canOf_32 rfl rfl rfl ?_
              refine j_ld_kn (i := g_sc s k) (t := 34) C d_M_canOf_33 hM (by first | rfl | simp only [nI_add, nI_mul, nI_1]) (by omega) (hknM) rfl ?_
              refine j_if_eq (tgt := 46) (t := 37) C d_M_canOf_34 (by decide) rfl (fun h34 => absurd h34 (by decide)) (fun h34 => ?_)
              refine j_aload_n (i := 0) (t := 38) C d_M_canOf_37 rfl rfl (by first | exact jrv_r | exact jrv_n | exact jrv_f) rfl ?_
              refine j_get (t := 41) C fl_M_45 d_M_canOf_38 hM.1 rfl rfl ?_
              refine j_iload_n (i := 3) (t := 42) C d_M_canOf_41 rfl rfl rfl ?_
              refine j_ld_kn (i := P) (t := 43) C d_M_canOf_42 hM (by first | rfl | simp only [nI_add, nI_mul, nI_1]) (by omega) (hknM2) rfl ?_
              refine j_if_ne (tgt := 63) (t := 46) C d_M_canOf_43 (by decide) rfl (fun h43 => ?_) (fun h43 => absurd h43 (by decide))
              refine j_aload_n (i := 0) (t := 64) C d_M_canOf_63 rfl rfl (by first | exact jrv_r | exact jrv_n | exact jrv_f) rfl ?_
              refine j_get (t := 67) C fl_M_39 d_M_canOf_64 hM.1 rfl rfl ?_
              refine j_iload_n (i := 2) (t := 68) C d_M_canOf_67 rfl rfl rfl ?_
              refine j_ld_ms (i := g_sc s k) (t := 69) C d_M_canOf_68 hM (by first | rfl | simp only [nI_add, nI_mul, nI_1]) (by omega) (hkm) rfl ?_
              refine j_if_le (tgt := 76) (t := 72) C d_M_canOf_69 (by decide) rfl (fun h69 => absurd h69 (Int32.not_le.mpr hm)) (fun h69 => ?_)
              refine j_iconst (x := 1) (t := 73) C d_M_canOf_72 rfl rfl ?_
              refine j_goto (tgt := 77) C d_M_canOf_73 (by decide) ?_
              refine j_istore (i := 4) (t := 79) (lv' := [(0, _), (1, _), (2, _), (3, _), (4, _)]) C d_M_canOf_77 (by decide) (by decide) rfl rfl ?_
              refine j_aload_n (i := 0) (t := 80) C d_M_canOf_79 rfl rfl (by first | exact jrv_r | exact jrv_n | exact jrv_f) rfl ?_
              refine j_get (t := 83) C fl_M_36 d_M_canOf_80 hM.1 rfl rfl ?_
              refine j_iload_n (i := 2) (t := 84) C d_M_canOf_83 rfl rfl rfl ?_
              refine j_ld_rw (i := g_sc s k) (t := 85) C d_M_canOf_84 hM (by first | rfl | simp only [nI_add, nI_mul, nI_1]) (by omega) (hkr) rfl ?_
              refine j_aload_n (i := 0) (t := 86) C d_M_canOf_85 rfl rfl (by first | exact jrv_r | exact jrv_n | exact jrv_f) rfl ?_
              refine j_get (t := 89) C fl_M_39 d_M_canOf_86 hM.1 rfl rfl ?_
              refine j_iload_n (i := 2) (t := 90) C d_M_canOf_89 rfl rfl rfl ?_
              refine j_ld_ms (i := g_sc s k) (t := 91) C d_M_canOf_90 hM (by first | rfl | simp only [nI_add, nI_mul, nI_1]) (by omega) (hkm) rfl ?_
              refine j_icmp_le (tgt := 98) (t := 94) C d_M_canOf_91 (by decide) rfl (fun h91 => absurd h91 (Int32.not_le.mpr hs)) (fun h91 => ?_)
              refine j_iconst (x := 1) (t := 95) C d_M_canOf_94 rfl rfl ?_
              refine j_goto (tgt := 99) C d_M_canOf_95 (by decide) ?_
              refine j_istore (i := 5) (t := 101) (lv' := [(0, _), (1, _), (2, _), (3, _), (4, _), (5, _)]) C d_M_canOf_99 (by decide) (by decide) rfl rfl ?_
              refine j_aload_n (i := 0) (t := 102) C d_M_canOf_101 rfl rfl (by first | exact jrv_r | exact jrv_n | exact jrv_f) rfl ?_
              refine j_get (t := 105) C fl_M_58 d_M_canOf_102 hM.1 rfl rfl ?_
              refine j_iload_n (i := 1) (t := 106) C d_M_canOf_105 rfl rfl rfl ?_
              refine j_ld_kd (i := k) (t := 107) C d_M_canOf_106 hM (by first | rfl | simp only [nI_add, nI_mul, nI_1]) (by omega) ((r_st k hk).1.trans hK) rfl ?_
              refine j_iconst (x := 2) (t := 108) C d_M_canOf_107 rfl rfl ?_
              refine j_icmp_ge (tgt := 167) (t := 111) C d_M_canOf_108 (by decide) rfl (fun h108 => ?_) (fun h108 => absurd h108 (by decide))
              refine j_iload (t := 169) C d_M_canOf_167 rfl rfl ?_
              refine j_if_ne (tgt := 181) (t := 172) C d_M_canOf_169 (by decide) rfl (fun h169 => ?_) (fun h169 => absurd h169 (by decide))
              refine j_iconst (x := 4) (t := 182) C d_M_canOf_181 rfl rfl ?_
              refine j_goto (tgt := 186) C d_M_canOf_182 (by decide) ?_
              refine j_istore (i := 6) (t := 188) (lv' := [(0, _), (1, _), (2, _), (3, _), (4, _), (5, _), (6, _)]) C d_M_canOf_186 (by decide) (by decide) rfl rfl ?_
              refine j_iload (t := 190) C d_M_canOf_188 rfl rfl ?_
              refine j_if_eq (tgt := 208) (t := 193) C d_M_canOf_190 (by decide) rfl (fun h190 => absurd h190 (by decide)) (fun h190 => ?_)
              refine j_aload_n (i := 0) (t := 194) C d_M_canOf_193 rfl rfl (by first | exact jrv_r | exact jrv_n | exact jrv_f) rfl ?_
              refine j_get (t := 197) C fl_M_36 d_M_canOf_194 hM.1 rfl rfl ?_
              refine j_iload_n (i := 3) (t := 198) C d_M_canOf_197 rfl rfl rfl ?_
              refine j_ld_rw (i := P) (t := 199) C d_M_canOf_198 hM (by first | rfl | simp only [nI_add, nI_mul, nI_1]) (by omega) (hkr2) rfl ?_
              refine j_aload_n (i := 0) (t := 200) C d_M_canOf_199 rfl rfl (by first | exact jrv_r | exact jrv_n | exact jrv_f) rfl ?_
              refine j_get (t := 203) C fl_M_39 d_M_canOf_200 hM.1 rfl rfl ?_
              refine j_iload_n (i := 3) (t := 204) C d_M_canOf_203 rfl rfl rfl ?_
              refine j_ld_ms (i := P) (t := 205) C d_M_canOf_204 hM (by first | rfl | simp only [nI_add, nI_mul, nI_1]) (by omega) (hkm2) rfl ?_
              refine j_icmp_ne (tgt := 211) (t := 208) C d_M_canOf_205 (by decide) rfl (fun h205 => ?_) (fun h205 => absurd h205 (fun z => absurd hs2 (by rw [z]; exact Int32.lt_irrefl)))
              obtain ⟨p, hp⟩ := Option.isSome_iff_exists.mp (q4 hs)
              obtain ⟨p2, hp2⟩ := Option.isSome_iff_exists.mp (p4 hs2)
              exact tail p p2 true _ _ hp hp2 (by rw [cAt_4 hK hkn (by rw [hoP]; exact hkn2), hoP, moL_s hp, moH_s hp, moL_s hp2, moH_s hp2, decide_eq_true hs, decide_eq_true hs2, decide_eq_true hm]; rfl)
            · by_cases hm2 : 0 < g_km s P
              · refine j_aload_n (i := 0) (t := 1) C d_M_canOf_0 rfl rfl (by first | exact jrv_r | exact jrv_n | exact jrv_f) rfl ?_
                refine j_get (t := 4) C fl_M_61 d_M_canOf_1 hM.1 rfl rfl ?_
                refine j_iload_n (i := 1) (t := 5) C d_M_canOf_4 rfl rfl rfl ?_
                refine j_ld_fi (i := k) (t := 6) C d_M_canOf_5 hM (by first | rfl | simp only [nI_add, nI_mul, nI_1]) (by omega) ((r_st k hk).2.1 hk5) rfl ?_
                refine j_istore_n (i := 2) (t := 7) (lv' := [(0, _), (1, _), (2, _)]) C d_M_canOf_6 rfl (by decide) (by decide) rfl rfl ?_
                refine j_aload_n (i := 0) (t := 8) C d_M_canOf_7 rfl rfl (by first | exact jrv_r | exact jrv_n | exact jrv_f) rfl ?_
                refine j_get (t := 11) C fl_M_58 d_M_canOf_8 hM.1 rfl rfl ?_
                refine j_iload_n (i := 1) (t := 12) C d_M_canOf_11 rfl rfl rfl ?_
                refine j_ld_kd (i := k) (t := 13) C d_M_canOf_12 hM (by first | rfl | simp only [nI_add, nI_mul, nI_1]) (by omega) ((r_st k hk).1.trans hK) rfl ?_
                refine j_iconst (x := 4) (t := 14) C d_M_canOf_13 rfl rfl ?_
                refine j_icmp_ne (tgt := 26) (t := 17) C d_M_canOf_14 (by decide) rfl (fun h14 => absurd h14 (by decide)) (fun h14 => ?_)
                refine j_aload_n (i := 0) (t := 18) C d_M_canOf_17 rfl rfl (by first | exact jrv_r | exact jrv_n | exact jrv_f) rfl ?_
                refine j_get (t := 21) C fl_M_67 d_M_canOf_18 hM.1 rfl rfl ?_
                refine j_iload_n (i := 1) (t := 22) C d_M_canOf_21 rfl rfl rfl ?_
                refine j_ld_ot (i := k) (t := 23) C d_M_canOf_22 hM (by first | rfl | simp only [nI_add, nI_mul, nI_1]) (by omega) ((r_st k hk).2.2.2.1.trans eP) rfl ?_
                refine j_goto (tgt := 27) C d_M_canOf_23 (by decide) ?_
                refine j_istore_n (i := 3) (t := 28) (lv' := [(0, _), (1, _), (2, _), (3, _)]) C d_M_canOf_27 rfl (by decide) (by decide) rfl rfl ?_
                refine j_aload_n (i := 0) (t := 29) C d_M_canOf_28 rfl rfl (by first | exact jrv_r | exact jrv_n | exact jrv_f) rfl ?_
                refine j_get (t := 32) C fl_M_45 d_M_canOf_29 hM.1 rfl rfl ?_
                refine j_iload_n (i := 2) (t := 33) C d_M_canOf_32 rfl rfl rfl ?_
                refine j_ld_kn (i := g_sc s k) (t := 34) C d_M_canOf_33 hM (by first | rfl | simp only [nI_add, nI_mul, nI_1]) (by omega) (hknM) rfl ?_
                refine j_if_eq (tgt := 46) (t := 37) C d_M_canOf_34 (by decide) rfl (fun h34 => absurd h34 (by decide)) (fun h34 => ?_)
                refine j_aload_n (i := 0) (t := 38) C d_M_canOf_37 rfl rfl (by first | exact jrv_r | exact jrv_n | exact jrv_f) rfl ?_
                refine j_get (t := 41) C fl_M_45 d_M_canOf_38 hM.1 rfl rfl ?_
                refine j_iload_n (i := 3) (t := 42) C d_M_canOf_41 rfl rfl rfl ?_
                refine j_ld_kn (i := P) (t := 43) C d_M_canOf_42 hM (by first | rfl | simp only [nI_add, nI_mul, nI_1]) (by omega) (hknM2) rfl ?_
                refine j_if_ne (tgt := 63) (t := 46) C d_M_canOf_43 (by decide) rfl (fun h43 => ?_) (fun h43 => absurd h43 (by decide))
                refine j_aload_n (i := 0) (t := 64) C d_M_canOf_63 rfl rfl (by first | exact jrv_r | exact jrv_n | exact jrv_f) rfl ?_
                refine j_get (t := 67) C fl_M_39 d_M_canOf_64 hM.1 rfl rfl ?_
                refine j_iload_n (i := 2) (t := 68) C d_M_canOf_67 rfl rfl rfl ?_
                refine j_ld_ms (i := g_sc s k) (t := 69) C d_M_canOf_68 hM (by first | rfl | simp only [nI_add, nI_mul, nI_1]) (by omega) (hkm) rfl ?_
                refine j_if_le (tgt := 76) (t := 72) C d_M_canOf_69 (by decide) rfl (fun h69 => ?_) (fun h69 => absurd h69 (fun z => z (Int32.not_lt.mp hm)))
                refine j_iconst (x := 0) (t := 77) C d_M_canOf_76 rfl rfl ?_
                refine j_istore (i := 4) (t := 79) (lv' := [(0, _), (1, _), (2, _), (3, _), (4, _)]) C d_M_canOf_77 (by decide) (by decide) rfl rfl ?_
                refine j_aload_n (i := 0) (t := 80) C d_M_canOf_79 rfl rfl (by first | exact jrv_r | exact jrv_n | exact jrv_f) rfl ?_
                refine j_get (t := 83) C fl_M_36 d_M_canOf_80 hM.1 rfl rfl ?_
                refine j_iload_n (i := 2) (t := 84) C d_M_canOf_83 rfl rfl rfl ?_
                refine j_ld_rw (i := g_sc s k) (t := 85) C d_M_canOf_84 hM (by first | rfl | simp only [nI_add, nI_mul, nI_1]) (by omega) (hkr) rfl ?_
                refine j_aload_n (i := 0) (t := 86) C d_M_canOf_85 rfl rfl (by first | exact jrv_r | exact jrv_n | exact jrv_f) rfl ?_
                refine j_get (t := 89) C fl_M_39 d_M_canOf_86 hM.1 rfl rfl ?_
                refine j_iload_n (i := 2) (t := 90) C d_M_canOf_89 rfl rfl rfl ?_
                refine j_ld_ms (i := g_sc s k) (t := 91) C d_M_canOf_90 hM (by first | rfl | simp only [nI_add, nI_mul, nI_1]) (by omega) (hkm) rfl ?_
                refine j_icmp_le (tgt := 98) (t := 94) C d_M_canOf_91 (by decide) rfl (fun h91 => absurd h91 (Int32.not_le.mpr hs)) (fun h91 => ?_)
                refine j_iconst (x := 1) (t := 95) C d_M_canOf_94 rfl rfl ?_
                refine j_goto (tgt := 99) C d_M_canOf_95 (by decide) ?_
                refine j_istore (i := 5) (t := 101) (lv' := [(0, _), (1, _), (2, _), (3, _), (4, _), (5, _)]) C d_M_canOf_99 (by decide) (by decide) rfl rfl ?_
                refine j_aload_n (i := 0) (t := 102) C d_M_canOf_101 rfl rfl (by first | exact jrv_r | exact jrv_n | exact jrv_f) rfl ?_
                refine j_get (t := 105) C fl_M_58 d_M_canOf_102 hM.1 rfl rfl ?_
                refine j_iload_n (i := 1) (t := 106) C d_M_canOf_105 rfl rfl rfl ?_
                refine j_ld_kd (i := k) (t := 107) C d_M_canOf_106 hM (by first | rfl | simp only [nI_add, nI_mul, nI_1]) (by omega) ((r_st k hk).1.trans hK) rfl ?_
                refine j_iconst (x := 2) (t := 108) C d_M_canOf_107 rfl rfl ?_
                refine j_icmp_ge (tgt := 167) (t := 111) C d_M_canOf_108 (by decide) rfl (fun h108 => ?_) (fun h108 => absurd h108 (by decide))
                refine j_iload (t := 169) C d_M_canOf_167 rfl rfl ?_
                refine j_if_ne (tgt := 181) (t := 172) C d_M_canOf_169 (by decide) rfl (fun h169 => absurd h169 (fun z => z rfl)) (fun h169 => ?_)
                refine j_aload_n (i := 0) (t := 173) C d_M_canOf_172 rfl rfl (by first | exact jrv_r | exact jrv_n | exact jrv_f) rfl ?_
                refine j_get (t := 176) C fl_M_39 d_M_canOf_173 hM.1 rfl rfl ?_
                refine j_iload_n (i := 3) (t := 177) C d_M_canOf_176 rfl rfl rfl ?_
                refine j_ld_ms (i := P) (t := 178) C d_M_canOf_177 hM (by first | rfl | simp only [nI_add, nI_mul, nI_1]) (by omega) (hkm2) rfl ?_
                refine j_if_le (tgt := 185) (t := 181) C d_M_canOf_178 (by decide) rfl (fun h178 => absurd h178 (Int32.not_le.mpr hm2)) (fun h178 => ?_)
                refine j_iconst (x := 4) (t := 182) C d_M_canOf_181 rfl rfl ?_
                refine j_goto (tgt := 186) C d_M_canOf_182 (by decide) ?_
                refine j_istore (i := 6) (t := 188) (lv' := [(0, _), (1, _), (2, _), (3, _), (4, _), (5, _), (6, _)]) C d_M_canOf_186 (by decide) (by decide) rfl rfl ?_
                refine j_iload (t := 190) C d_M_canOf_188 rfl rfl ?_
                refine j_if_eq (tgt := 208) (t := 193) C d_M_canOf_190 (by decide) rfl (fun h190 => absurd h190 (by decide)) (fun h190 => ?_)
                refine j_aload_n (i := 0) (t := 194) C d_M_canOf_193 rfl rfl (by first | exact jrv_r | exact jrv_n | exact jrv_f) rfl ?_
                refine j_get (t := 197) C fl_M_36 d_M_canOf_194 hM.1 rfl rfl ?_
                refine j_iload_n (i := 3) (t := 198) C d_M_canOf_197 rfl rfl rfl ?_
                refine j_ld_rw (i := P) (t := 199) C d_M_canOf_198 hM (by first | rfl | simp only [nI_add, nI_mul, nI_1]) (by omega) (hkr2) rfl ?_
                refine j_aload_n (i := 0) (t := 200) C d_M_canOf_199 rfl rfl (by first | exact jrv_r | exact jrv_n | exact jrv_f) rfl ?_
                refine j_get (t := 203) C fl_M_39 d_M_canOf_200 hM.1 rfl rfl ?_
                refine j_iload_n (i := 3) (t := 204) C d_M_canOf_203 rfl rfl rfl ?_
                refine j_ld_ms (i := P) (t := 205) C d_M_canOf_204 hM (by first | rfl | simp only [nI_add, nI_mul, nI_1]) (by omega) (hkm2) rfl ?_
                refine j_icmp_ne (tgt := 211) (t := 208) C d_M_canOf_205 (by decide) rfl (fun h205 => ?_) (fun h205 => absurd h205 (fun z => absurd hs2 (by rw [z]; exact Int32.lt_irrefl)))
                obtain ⟨p, hp⟩ := Option.isSome_iff_exists.mp (q4 hs)
                obtain ⟨p2, hp2⟩ := Option.isSome_iff_exists.mp (p4 hs2)
                exact tail p p2 true _ _ hp hp2 (by rw [cAt_4 hK hkn (by rw [hoP]; exact hkn2), hoP, moL_s hp, moH_s hp, moL_s hp2, moH_s hp2, decide_eq_true hs, decide_eq_true hs2, decide_eq_false hm, decide_eq_true hm2]; rfl)
              · refine j_aload_n (i := 0) (t := 1) C d_M_canOf_0 rfl rfl (by first | exact jrv_r | exact jrv_n | exact jrv_f) rfl ?_
                refine j_get (t := 4) C fl_M_61 d_M_canOf_1 hM.1 rfl rfl ?_
                refine j_iload_n (i := 1) (t := 5) C d_M_canOf_4 rfl rfl rfl ?_
                refine j_ld_fi (i := k) (t := 6) C d_M_canOf_5 hM (by first | rfl | simp only [nI_add, nI_mul, nI_1]) (by omega) ((r_st k hk).2.1 hk5) rfl ?_
                refine j_istore_n (i := 2) (t := 7) (lv' := [(0, _), (1, _), (2, _)]) C d_M_canOf_6 rfl (by decide) (by decide) rfl rfl ?_
                refine j_aload_n (i := 0) (t := 8) C d_M_canOf_7 rfl rfl (by first | exact jrv_r | exact jrv_n | exact jrv_f) rfl ?_
                refine j_get (t := 11) C fl_M_58 d_M_canOf_8 hM.1 rfl rfl ?_
                refine j_iload_n (i := 1) (t := 12) C d_M_canOf_11 rfl rfl rfl ?_
                refine j_ld_kd (i := k) (t := 13) C d_M_canOf_12 hM (by first | rfl | simp only [nI_add, nI_mul, nI_1]) (by omega) ((r_st k hk).1.trans hK) rfl ?_
                refine j_iconst (x := 4) (t := 14) C d_M_canOf_13 rfl rfl ?_
                refine j_icmp_ne (tgt := 26) (t := 17) C d_M_canOf_14 (by decide) rfl (fun h14 => absurd h14 (by decide)) (fun h14 => ?_)
                refine j_aload_n (i := 0) (t := 18) C d_M_canOf_17 rfl rfl (by first | exact jrv_r | exact jrv_n | exact jrv_f) rfl ?_
                refine j_get (t := 21) C fl_M_67 d_M_canOf_18 hM.1 rfl rfl ?_
                refine j_iload_n (i := 1) (t := 22) C d_M_canOf_21 rfl rfl rfl ?_
                refine j_ld_ot (i := k) (t := 23) C d_M_canOf_22 hM (by first | rfl | simp only [nI_add, nI_mul, nI_1]) (by omega) ((r_st k hk).2.2.2.1.trans eP) rfl ?_
                refine j_goto (tgt := 27) C d_M_canOf_23 (by decide) ?_
                refine j_istore_n (i := 3) (t := 28) (lv' := [(0, _), (1, _), (2, _), (3, _)]) C d_M_canOf_27 rfl (by decide) (by decide) rfl rfl ?_
                refine j_aload_n (i := 0) (t := 29) C d_M_canOf_28 rfl rfl (by first | exact jrv_r | exact jrv_n | exact jrv_f) rfl ?_
                refine j_get (t := 32) C fl_M_45 d_M_canOf_29 hM.1 rfl rfl ?_
                refine j_iload_n (i := 2) (t := 33) C d_M_canOf_32 rfl rfl rfl ?_
                refine j_ld_kn (i := g_sc s k) (t := 34) C d_M_canOf_33 hM (by first | rfl | simp only [nI_add, nI_mul, nI_1]) (by omega) (hknM) rfl ?_
                refine j_if_eq (tgt := 46) (t := 37) C d_M_canOf_34 (by decide) rfl (fun h34 => absurd h34 (by decide)) (fun h34 => ?_)
                refine j_aload_n (i := 0) (t := 38) C d_M_canOf_37 rfl rfl (by first | exact jrv_r | exact jrv_n | exact jrv_f) rfl ?_
                refine j_get (t := 41) C fl_M_45 d_M_canOf_38 hM.1 rfl rfl ?_
                refine j_iload_n (i := 3) (t := 42) C d_M_canOf_41 rfl rfl rfl ?_
                refine j_ld_kn (i := P) (t := 43) C d_M_canOf_42 hM (by first | rfl | simp only [nI_add, nI_mul, nI_1]) (by omega) (hknM2) rfl ?_
                refine j_if_ne (tgt := 63) (t := 46) C d_M_canOf_43 (by decide) rfl (fun h43 => ?_) (fun h43 => absurd h43 (by decide))
                refine j_aload_n (i := 0) (t := 64) C d_M_canOf_63 rfl rfl (by first | exact jrv_r | exact jrv_n | exact jrv_f) rfl ?_
                refine j_get (t := 67) C fl_M_39 d_M_canOf_64 hM.1 rfl rfl ?_
                refine j_iload_n (i := 2) (t := 68) C d_M_canOf_67 rfl rfl rfl ?_
                refine j_ld_ms (i := g_sc s k) (t := 69) C d_M_canOf_68 hM (by first | rfl | simp only [nI_add, nI_mul, nI_1]) (by omega) (hkm) rfl ?_
                refine j_if_le (tgt := 76) (t := 72) C d_M_canOf_69 (by decide) rfl (fun h69 => ?_) (fun h69 => absurd h69 (fun z => z (Int32.not_lt.mp hm)))
                refine j_iconst (x := 0) (t := 77) C d_M_canOf_76 rfl rfl ?_
                refine j_istore (i := 4) (t := 79) (lv' := [(0, _), (1, _), (2, _), (3, _), (4, _)]) C d_M_canOf_77 (by decide) (by decide) rfl rfl ?_
                refine j_aload_n (i := 0) (t := 80) C d_M_canOf_79 rfl rfl (by first | exact jrv_r | exact jrv_n | exact jrv_f) rfl ?_
                refine j_get (t := 83) C fl_M_36 d_M_canOf_80 hM.1 rfl rfl ?_
                refine j_iload_n (i := 2) (t := 84) C d_M_canOf_83 rfl rfl rfl ?_
                refine j_ld_rw (i := g_sc s k) (t := 85) C d_M_canOf_84 hM (by first | rfl | simp only [nI_add, nI_mul, nI_1]) (by omega) (hkr) rfl ?_
                refine j_aload_n (i := 0) (t := 86) C d_M_canOf_85 rfl rfl (by first | exact jrv_r | exact jrv_n | exact jrv_f) rfl ?_
                refine j_get (t := 89) C fl_M_39 d_M_canOf_86 hM.1 rfl rfl ?_
                refine j_iload_n (i := 2) (t := 90) C d_M_canOf_89 rfl rfl rfl ?_
                refine j_ld_ms (i := g_sc s k) (t := 91) C d_M_canOf_90 hM (by first | rfl | simp only [nI_add, nI_mul, nI_1]) (by omega) (hkm) rfl ?_
                refine j_icmp_le (tgt := 98) (t := 94) C d_M_canOf_91 (by decide) rfl (fun h91 => absurd h91 (Int32.not_le.mpr hs)) (fun h91 => ?_)
                refine j_iconst (x := 1) (t := 95) C d_M_canOf_94 rfl rfl ?_
                refine j_goto (tgt := 99) C d_M_canOf_95 (by decide) ?_
                refine j_istore (i := 5) (t := 101) (lv' := [(0, _), (1, _), (2, _), (3, _), (4, _), (5, _)]) C d_M_canOf_99 (by decide) (by decide) rfl rfl ?_
                refine j_aload_n (i := 0) (t := 102) C d_M_canOf_101 rfl rfl (by first | exact jrv_r | exact jrv_n | exact jrv_f) rfl ?_
                refine j_get (t := 105) C fl_M_58 d_M_canOf_102 hM.1 rfl rfl ?_
                refine j_iload_n (i := 1) (t := 106) C d_M_canOf_105 rfl rfl rfl ?_
                refine j_ld_kd (i := k) (t := 107) C d_M_canOf_106 hM (by first | rfl | simp only [nI_add, nI_mul, nI_1]) (by omega) ((r_st k hk).1.trans hK) rfl ?_
                refine j_iconst (x := 2) (t := 108) C d_M_canOf_107 rfl rfl ?_
                refine j_icmp_ge (tgt := 167) (t := 111) C d_M_canOf_108 (by decide) rfl (fun h108 => ?_) (fun h108 => absurd h108 (by decide))
                refine j_iload (t := 169) C d_M_canOf_167 rfl rfl ?_
                refine j_if_ne (tgt := 181) (t := 172) C d_M_canOf_169 (by decide) rfl (fun h169 => absurd h169 (fun z => z rfl)) (fun h169 => ?_)
                refine j_aload_n (i := 0) (t := 173) C d_M_canOf_172 rfl rfl (by first | exact jrv_r | exact jrv_n | exact jrv_f) rfl ?_
                refine j_get (t := 176) C fl_M_39 d_M_canOf_173 hM.1 rfl rfl ?_
                refine j_iload_n (i := 3) (t := 177) C d_M_canOf_176 rfl rfl rfl ?_
                refine j_ld_ms (i := P) (t := 178) C d_M_canOf_177 hM (by first | rfl | simp only [nI_add, nI_mul, nI_1]) (by omega) (hkm2) rfl ?_
                refine j_if_le (tgt := 185) (t := 181) C d_M_canOf_178 (by decide) rfl (fun h178 => ?_) (fun h178 => absurd h178 (fun z => z (Int32.not_lt.mp hm2)))
                refine j_iconst (x := 0) (t := 186) C d_M_canOf_185 rfl rfl ?_
                refine j_istore (i := 6) (t := 188) (lv' := [(0, _), (1, _), (2, _), (3, _), (4, _), (5, _), (6, _)]) C d_M_canOf_186 (by decide) (by decide) rfl rfl ?_
                refine j_iload (t := 190) C d_M_canOf_188 rfl rfl ?_
                refine j_if_eq (tgt := 208) (t := 193) C d_M_canOf_190 (by decide) rfl (fun h190 => absurd h190 (by decide)) (fun h190 => ?_)
                refine j_aload_n (i := 0) (t := 194) C d_M_canOf_193 rfl rfl (by first | exact jrv_r | exact jrv_n | exact jrv_f) rfl ?_
                refine j_get (t := 197) C fl_M_36 d_M_canOf_194 hM.1 rfl rfl ?_
                refine j_iload_n (i := 3) (t := 198) C d_M_canOf_197 rfl rfl rfl ?_
                refine j_ld_rw (i := P) (t := 199) C d_M_canOf_198 hM (by first | rfl | simp only [nI_add, nI_mul, nI_1]) (by omega) (hkr2) rfl ?_
                refine j_aload_n (i := 0) (t := 200) C d_M_canOf_199 rfl rfl (by first | exact jrv_r | exact jrv_n | exact jrv_f) rfl ?_
                refine j_get (t := 203) C fl_M_39 d_M_canOf_200 hM.1 rfl rfl ?_
                refine j_iload_n (i := 3) (t := 204) C d_M_canOf_203 rfl rfl rfl ?_
                refine j_ld_ms (i := P) (t := 205) C d_M_canOf_204 hM (by first | rfl | simp only [nI_add, nI_mul, nI_1]) (by omega) (hkm2) rfl ?_
                refine j_icmp_ne (tgt := 211) (t := 208) C d_M_canOf_205 (by decide) rfl (fun h205 => ?_) (fun h205 => absurd h205 (fun z => absurd hs2 (by rw [z]; exact Int32.lt_irrefl)))
                obtain ⟨p, hp⟩ := Option.isSome_iff_exists.mp (q4 hs)
                obtain ⟨p2, hp2⟩ := Option.isSome_iff_exists.mp (p4 hs2)
                exact tail p p2 false _ _ hp hp2 (by rw [cAt_4 hK hkn (by rw [hoP]; exact hkn2), hoP, moL_s hp, moH_s hp, moL_s hp2, moH_s hp2, decide_eq_true hs, decide_eq_true hs2, decide_eq_false hm, decide_eq_false hm2]; rfl)
          · by_cases hm : 0 < g_km s (g_sc s k)
            · refine j_aload_n (i := 0) (t := 1) C d_M_canOf_0 rfl rfl (by first | exact jrv_r | exact jrv_n | exact jrv_f) rfl ?_
              refine j_get (t := 4) C fl_M_61 d_M_canOf_1 hM.1 rfl rfl ?_
              refine j_iload_n (i := 1) (t := 5) C d_M_canOf_4 rfl rfl rfl ?_
              refine j_ld_fi (i := k) (t := 6) C d_M_canOf_5 hM (by first | rfl | simp only [nI_add, nI_mul, nI_1]) (by omega) ((r_st k hk).2.1 hk5) rfl ?_
              refine j_istore_n (i := 2) (t := 7) (lv' := [(0, _), (1, _), (2, _)]) C d_M_canOf_6 rfl (by decide) (by decide) rfl rfl ?_
              refine j_aload_n (i := 0) (t := 8) C d_M_canOf_7 rfl rfl (by first | exact jrv_r | exact jrv_n | exact jrv_f) rfl ?_
              refine j_get (t := 11) C fl_M_58 d_M_canOf_8 hM.1 rfl rfl ?_
              refine j_iload_n (i := 1) (t := 12) C d_M_canOf_11 rfl rfl rfl ?_
              refine j_ld_kd (i := k) (t := 13) C d_M_canOf_12 hM (by first | rfl | simp only [nI_add, nI_mul, nI_1]) (by omega) ((r_st k hk).1.trans hK) rfl ?_
              refine j_iconst (x := 4) (t := 14) C d_M_canOf_13 rfl rfl ?_
              refine j_icmp_ne (tgt := 26) (t := 17) C d_M_canOf_14 (by decide) rfl (fun h14 => absurd h14 (by decide)) (fun h14 => ?_)
              refine j_aload_n (i := 0) (t := 18) C d_M_canOf_17 rfl rfl (by first | exact jrv_r | exact jrv_n | exact jrv_f) rfl ?_
              refine j_get (t := 21) C fl_M_67 d_M_canOf_18 hM.1 rfl rfl ?_
              refine j_iload_n (i := 1) (t := 22) C d_M_canOf_21 rfl rfl rfl ?_
              refine j_ld_ot (i := k) (t := 23) C d_M_canOf_22 hM (by first | rfl | simp only [nI_add, nI_mul, nI_1]) (by omega) ((r_st k hk).2.2.2.1.trans eP) rfl ?_
              refine j_goto (tgt := 27) C d_M_canOf_23 (by decide) ?_
              refine j_istore_n (i := 3) (t := 28) (lv' := [(0, _), (1, _), (2, _), (3, _)]) C d_M_canOf_27 rfl (by decide) (by decide) rfl rfl ?_
              refine j_aload_n (i := 0) (t := 29) C d_M_canOf_28 rfl rfl (by first | exact jrv_r | exact jrv_n | exact jrv_f) rfl ?_
              refine j_get (t := 32) C fl_M_45 d_M_canOf_29 hM.1 rfl rfl ?_
              refine j_iload_n (i := 2) (t := 33) C d_M_canOf_32 rfl rfl rfl ?_
              refine j_ld_kn (i := g_sc s k) (t := 34) C d_M_canOf_33 hM (by first | rfl | simp only [nI_add, nI_mul, nI_1]) (by omega) (hknM) rfl ?_
              refine j_if_eq (tgt := 46) (t := 37) C d_M_canOf_34 (by decide) rfl (fun h34 => absurd h34 (by decide)) (fun h34 => ?_)
              refine j_aload_n (i := 0) (t := 38) C d_M_canOf_37 rfl rfl (by first | exact jrv_r | exact jrv_n | exact jrv_f) rfl ?_
              refine j_get (t := 41) C fl_M_45 d_M_canOf_38 hM.1 rfl rfl ?_
              refine j_iload_n (i := 3) (t := 42) C d_M_canOf_41 rfl rfl rfl ?_
              refine j_ld_kn (i := P) (t := 43) C d_M_canOf_42 hM (by first | rfl | simp only [nI_add, nI_mul, nI_1]) (by omega) (hknM2) rfl ?_
              refine j_if_ne (tgt := 63) (t := 46) C d_M_canOf_43 (by decide) rfl (fun h43 => ?_) (fun h43 => absurd h43 (by decide))
              refine j_aload_n (i := 0) (t := 64) C d_M_canOf_63 rfl rfl (by first | exact jrv_r | exact jrv_n | exact jrv_f) rfl ?_
              refine j_get (t := 67) C fl_M_39 d_M_canOf_64 hM.1 rfl rfl ?_
              refine j_iload_n (i := 2) (t := 68) C d_M_canOf_67 rfl rfl rfl ?_
              refine j_ld_ms (i := g_sc s k) (t := 69) C d_M_canOf_68 hM (by first | rfl | simp only [nI_add, nI_mul, nI_1]) (by omega) (hkm) rfl ?_
              refine j_if_le (tgt := 76) (t := 72) C d_M_canOf_69 (by decide) rfl (fun h69 => absurd h69 (Int32.not_le.mpr hm)) (fun h69 => ?_)
              refine j_iconst (x := 1) (t := 73) C d_M_canOf_72 rfl rfl ?_
              refine j_goto (tgt := 77) C d_M_canOf_73 (by decide) ?_
              refine j_istore (i := 4) (t := 79) (lv' := [(0, _), (1, _), (2, _), (3, _), (4, _)]) C d_M_canOf_77 (by decide) (by decide) rfl rfl ?_
              refine j_aload_n (i := 0) (t := 80) C d_M_canOf_79 rfl rfl (by first | exact jrv_r | exact jrv_n | exact jrv_f) rfl ?_
              refine j_get (t := 83) C fl_M_36 d_M_canOf_80 hM.1 rfl rfl ?_
              refine j_iload_n (i := 2) (t := 84) C d_M_canOf_83 rfl rfl rfl ?_
              refine j_ld_rw (i := g_sc s k) (t := 85) C d_M_canOf_84 hM (by first | rfl | simp only [nI_add, nI_mul, nI_1]) (by omega) (hkr) rfl ?_
              refine j_aload_n (i := 0) (t := 86) C d_M_canOf_85 rfl rfl (by first | exact jrv_r | exact jrv_n | exact jrv_f) rfl ?_
              refine j_get (t := 89) C fl_M_39 d_M_canOf_86 hM.1 rfl rfl ?_
              refine j_iload_n (i := 2) (t := 90) C d_M_canOf_89 rfl rfl rfl ?_
              refine j_ld_ms (i := g_sc s k) (t := 91) C d_M_canOf_90 hM (by first | rfl | simp only [nI_add, nI_mul, nI_1]) (by omega) (hkm) rfl ?_
              refine j_icmp_le (tgt := 98) (t := 94) C d_M_canOf_91 (by decide) rfl (fun h91 => absurd h91 (Int32.not_le.mpr hs)) (fun h91 => ?_)
              refine j_iconst (x := 1) (t := 95) C d_M_canOf_94 rfl rfl ?_
              refine j_goto (tgt := 99) C d_M_canOf_95 (by decide) ?_
              refine j_istore (i := 5) (t := 101) (lv' := [(0, _), (1, _), (2, _), (3, _), (4, _), (5, _)]) C d_M_canOf_99 (by decide) (by decide) rfl rfl ?_
              refine j_aload_n (i := 0) (t := 102) C d_M_canOf_101 rfl rfl (by first | exact jrv_r | exact jrv_n | exact jrv_f) rfl ?_
              refine j_get (t := 105) C fl_M_58 d_M_canOf_102 hM.1 rfl rfl ?_
              refine j_iload_n (i := 1) (t := 106) C d_M_canOf_105 rfl rfl rfl ?_
              refine j_ld_kd (i := k) (t := 107) C d_M_canOf_106 hM (by first | rfl | simp only [nI_add, nI_mul, nI_1]) (by omega) ((r_st k hk).1.trans hK) rfl ?_
              refine j_iconst (x := 2) (t := 108) C d_M_canOf_107 rfl rfl ?_
              refine j_icmp_ge (tgt := 167) (t := 111) C d_M_canOf_108 (by decide) rfl (fun h108 => ?_) (fun h108 => absurd h108 (by decide))
              refine j_iload (t := 169) C d_M_canOf_167 rfl rfl ?_
              refine j_if_ne (tgt := 181) (t := 172) C d_M_canOf_169 (by decide) rfl (fun h169 => ?_) (fun h169 => absurd h169 (by decide))
              refine j_iconst (x := 4) (t := 182) C d_M_canOf_181 rfl rfl ?_
              refine j_goto (tgt := 186) C d_M_canOf_182 (by decide) ?_
              refine j_istore (i := 6) (t := 188) (lv' := [(0, _), (1, _), (2, _), (3, _), (4, _), (5, _), (6, _)]) C d_M_canOf_186 (by decide) (by decide) rfl rfl ?_
              refine j_iload (t := 190) C d_M_canOf_188 rfl rfl ?_
              refine j_if_eq (tgt := 208) (t := 193) C d_M_canOf_190 (by decide) rfl (fun h190 => absurd h190 (by decide)) (fun h190 => ?_)
              refine j_aload_n (i := 0) (t := 194) C d_M_canOf_193 rfl rfl (by first | exact jrv_r | exact jrv_n | exact jrv_f) rfl ?_
              refine j_get (t := 197) C fl_M_36 d_M_canOf_194 hM.1 rfl rfl ?_
              refine j_iload_n (i := 3) (t := 198) C d_M_canOf_197 rfl rfl rfl ?_
              refine j_ld_rw (i := P) (t := 199) C d_M_canOf_198 hM (by first | rfl | simp only [nI_add, nI_mul, nI_1]) (by omega) (hkr2) rfl ?_
              refine j_aload_n (i := 0) (t := 200) C d_M_canOf_199 rfl rfl (by first | exact jrv_r | exact jrv_n | exact jrv_f) rfl ?_
              refine j_get (t := 203) C fl_M_39 d_M_canOf_200 hM.1 rfl rfl ?_
              refine j_iload_n (i := 3) (t := 204) C d_M_canOf_203 rfl rfl rfl ?_
              refine j_ld_ms (i := P) (t := 205) C d_M_canOf_204 hM (by first | rfl | simp only [nI_add, nI_mul, nI_1]) (by omega) (hkm2) rfl ?_
              refine j_icmp_ne (tgt := 211) (t := 208) C d_M_canOf_205 (by decide) rfl (fun h205 => absurd h205 (fun z => z (Int32.le_antisymm (Int32.not_lt.mp hs2) p2))) (fun h205 => ?_)
              refine j_iload (t := 210) C d_M_canOf_208 rfl rfl ?_
              exact j_iret C d_M_canOf_210 (by first | rfl | exact nar_b) (⟨rfl, by rw [cAt_4 hK hkn (by rw [hoP]; exact hkn2), hoP, decide_eq_true hs, decide_eq_false hs2, decide_eq_true hm]; first | rfl | (rw [Bool.true_or]; rfl)⟩) (by omega) (by omega)
            · by_cases hm2 : 0 < g_km s P
              · refine j_aload_n (i := 0) (t := 1) C d_M_canOf_0 rfl rfl (by first | exact jrv_r | exact jrv_n | exact jrv_f) rfl ?_
                refine j_get (t := 4) C fl_M_61 d_M_canOf_1 hM.1 rfl rfl ?_
                refine j_iload_n (i := 1) (t := 5) C d_M_canOf_4 rfl rfl rfl ?_
                refine j_ld_fi (i := k) (t := 6) C d_M_canOf_5 hM (by first | rfl | simp only [nI_add, nI_mul, nI_1]) (by omega) ((r_st k hk).2.1 hk5) rfl ?_
                refine j_istore_n (i := 2) (t := 7) (lv' := [(0, _), (1, _), (2, _)]) C d_M_canOf_6 rfl (by decide) (by decide) rfl rfl ?_
                refine j_aload_n (i := 0) (t := 8) C d_M_canOf_7 rfl rfl (by first | exact jrv_r | exact jrv_n | exact jrv_f) rfl ?_
                refine j_get (t := 11) C fl_M_58 d_M_canOf_8 hM.1 rfl rfl ?_
                refine j_iload_n (i := 1) (t := 12) C d_M_canOf_11 rfl rfl rfl ?_
                refine j_ld_kd (i := k) (t := 13) C d_M_canOf_12 hM (by first | rfl | simp only [nI_add, nI_mul, nI_1]) (by omega) ((r_st k hk).1.trans hK) rfl ?_
                refine j_iconst (x := 4) (t := 14) C d_M_canOf_13 rfl rfl ?_
                refine j_icmp_ne (tgt := 26) (t := 17) C d_M_canOf_14 (by decide) rfl (fun h14 => absurd h14 (by decide)) (fun h14 => ?_)
                refine j_aload_n (i := 0) (t := 18) C d_M_canOf_17 rfl rfl (by first | exact jrv_r | exact jrv_n | exact jrv_f) rfl ?_
                refine j_get (t := 21) C fl_M_67 d_M_canOf_18 hM.1 rfl rfl ?_
                refine j_iload_n (i := 1) (t := 22) C d_M_canOf_21 rfl rfl rfl ?_
                refine j_ld_ot (i := k) (t := 23) C d_M_canOf_22 hM (by first | rfl | simp only [nI_add, nI_mul, nI_1]) (by omega) ((r_st k hk).2.2.2.1.trans eP) rfl ?_
                refine j_goto (tgt := 27) C d_M_canOf_23 (by decide) ?_
                refine j_istore_n (i := 3) (t := 28) (lv' := [(0, _), (1, _), (2, _), (3, _)]) C d_M_canOf_27 rfl (by decide) (by decide) rfl rfl ?_
                refine j_aload_n (i := 0) (t := 29) C d_M_canOf_28 rfl rfl (by first | exact jrv_r | exact jrv_n | exact jrv_f) rfl ?_
                refine j_get (t := 32) C fl_M_45 d_M_canOf_29 hM.1 rfl rfl ?_
                refine j_iload_n (i := 2) (t := 33) C d_M_canOf_32 rfl rfl rfl ?_
                refine j_ld_kn (i := g_sc s k) (t := 34) C d_M_canOf_33 hM (by first | rfl | simp only [nI_add, nI_mul, nI_1]) (by omega) (hknM) rfl ?_
                refine j_if_eq (tgt := 46) (t := 37) C d_M_canOf_34 (by decide) rfl (fun h34 => absurd h34 (by decide)) (fun h34 => ?_)
                refine j_aload_n (i := 0) (t := 38) C d_M_canOf_37 rfl rfl (by first | exact jrv_r | exact jrv_n | exact jrv_f) rfl ?_
                refine j_get (t := 41) C fl_M_45 d_M_canOf_38 hM.1 rfl rfl ?_
                refine j_iload_n (i := 3) (t := 42) C d_M_canOf_41 rfl rfl rfl ?_
                refine j_ld_kn (i := P) (t := 43) C d_M_canOf_42 hM (by first | rfl | simp only [nI_add, nI_mul, nI_1]) (by omega) (hknM2) rfl ?_
                refine j_if_ne (tgt := 63) (t := 46) C d_M_canOf_43 (by decide) rfl (fun h43 => ?_) (fun h43 => absurd h43 (by decide))
                refine j_aload_n (i := 0) (t := 64) C d_M_canOf_63 rfl rfl (by first | exact jrv_r | exact jrv_n | exact jrv_f) rfl ?_
                refine j_get (t := 67) C fl_M_39 d_M_canOf_64 hM.1 rfl rfl ?_
                refine j_iload_n (i := 2) (t := 68) C d_M_canOf_67 rfl rfl rfl ?_
                refine j_ld_ms (i := g_sc s k) (t := 69) C d_M_canOf_68 hM (by first | rfl | simp only [nI_add, nI_mul, nI_1]) (by omega) (hkm) rfl ?_
                refine j_if_le (tgt := 76) (t := 72) C d_M_canOf_69 (by decide) rfl (fun h69 => ?_) (fun h69 => absurd h69 (fun z => z (Int32.not_lt.mp hm)))
                refine j_iconst (x := 0) (t := 77) C d_M_canOf_76 rfl rfl ?_
                refine j_istore (i := 4) (t := 79) (lv' := [(0, _), (1, _), (2, _), (3, _), (4, _)]) C d_M_canOf_77 (by decide) (by decide) rfl rfl ?_
                refine j_aload_n (i := 0) (t := 80) C d_M_canOf_79 rfl rfl (by first | exact jrv_r | exact jrv_n | exact jrv_f) rfl ?_
                refine j_get (t := 83) C fl_M_36 d_M_canOf_80 hM.1 rfl rfl ?_
                refine j_iload_n (i := 2) (t := 84) C d_M_canOf_83 rfl rfl rfl ?_
                refine j_ld_rw (i := g_sc s k) (t := 85) C d_M_canOf_84 hM (by first | rfl | simp only [nI_add, nI_mul, nI_1]) (by omega) (hkr) rfl ?_
                refine j_aload_n (i := 0) (t := 86) C d_M_canOf_85 rfl rfl (by first | exact jrv_r | exact jrv_n | exact jrv_f) rfl ?_
                refine j_get (t := 89) C fl_M_39 d_M_canOf_86 hM.1 rfl rfl ?_
                refine j_iload_n (i := 2) (t := 90) C d_M_canOf_89 rfl rfl rfl ?_
                refine j_ld_ms (i := g_sc s k) (t := 91) C d_M_canOf_90 hM (by first | rfl | simp only [nI_add, nI_mul, nI_1]) (by omega) (hkm) rfl ?_
                refine j_icmp_le (tgt := 98) (t := 94) C d_M_canOf_91 (by decide) rfl (fun h91 => absurd h91 (Int32.not_le.mpr hs)) (fun h91 => ?_)
                refine j_iconst (x := 1) (t := 95) C d_M_canOf_94 rfl rfl ?_
                refine j_goto (tgt := 99) C d_M_canOf_95 (by decide) ?_
                refine j_istore (i := 5) (t := 101) (lv' := [(0, _), (1, _), (2, _), (3, _), (4, _), (5, _)]) C d_M_canOf_99 (by decide) (by decide) rfl rfl ?_
                refine j_aload_n (i := 0) (t := 102) C d_M_canOf_101 rfl rfl (by first | exact jrv_r | exact jrv_n | exact jrv_f) rfl ?_
                refine j_get (t := 105) C fl_M_58 d_M_canOf_102 hM.1 rfl rfl ?_
                refine j_iload_n (i := 1) (t := 106) C d_M_canOf_105 rfl rfl rfl ?_
                refine j_ld_kd (i := k) (t := 107) C d_M_canOf_106 hM (by first | rfl | simp only [nI_add, nI_mul, nI_1]) (by omega) ((r_st k hk).1.trans hK) rfl ?_
                refine j_iconst (x := 2) (t := 108) C d_M_canOf_107 rfl rfl ?_
                refine j_icmp_ge (tgt := 167) (t := 111) C d_M_canOf_108 (by decide) rfl (fun h108 => ?_) (fun h108 => absurd h108 (by decide))
                refine j_iload (t := 169) C d_M_canOf_167 rfl rfl ?_
                refine j_if_ne (tgt := 181) (t := 172) C d_M_canOf_169 (by decide) rfl (fun h169 => absurd h169 (fun z => z rfl)) (fun h169 => ?_)
                refine j_aload_n (i := 0) (t := 173) C d_M_canOf_172 rfl rfl (by first | exact jrv_r | exact jrv_n | exact jrv_f) rfl ?_
                refine j_get (t := 176) C fl_M_39 d_M_canOf_173 hM.1 rfl rfl ?_
                refine j_iload_n (i := 3) (t := 177) C d_M_canOf_176 rfl rfl rfl ?_
                refine j_ld_ms (i := P) (t := 178) C d_M_canOf_177 hM (by first | rfl | simp only [nI_add, nI_mul, nI_1]) (by omega) (hkm2) rfl ?_
                refine j_if_le (tgt := 185) (t := 181) C d_M_canOf_178 (by decide) rfl (fun h178 => absurd h178 (Int32.not_le.mpr hm2)) (fun h178 => ?_)
                refine j_iconst (x := 4) (t := 182) C d_M_canOf_181 rfl rfl ?_
                refine j_goto (tgt := 186) C d_M_canOf_182 (by decide) ?_
                refine j_istore (i := 6) (t := 188) (lv' := [(0, _), (1, _), (2, _), (3, _), (4, _), (5, _), (6, _)]) C d_M_canOf_186 (by decide) (by decide) rfl rfl ?_
                refine j_iload (t := 190) C d_M_canOf_188 rfl rfl ?_
                refine j_if_eq (tgt := 208) (t := 193) C d_M_canOf_190 (by decide) rfl (fun h190 => absurd h190 (by decide)) (fun h190 => ?_)
                refine j_aload_n (i := 0) (t := 194) C d_M_canOf_193 rfl rfl (by first | exact jrv_r | exact jrv_n | exact jrv_f) rfl ?_
                refine j_get (t := 197) C fl_M_36 d_M_canOf_194 hM.1 rfl rfl ?_
                refine j_iload_n (i := 3) (t := 198) C d_M_canOf_197 rfl rfl rfl ?_
                refine j_ld_rw (i := P) (t := 199) C d_M_canOf_198 hM (by first | rfl | simp only [nI_add, nI_mul, nI_1]) (by omega) (hkr2) rfl ?_
                refine j_aload_n (i := 0) (t := 200) C d_M_canOf_199 rfl rfl (by first | exact jrv_r | exact jrv_n | exact jrv_f) rfl ?_
                refine j_get (t := 203) C fl_M_39 d_M_canOf_200 hM.1 rfl rfl ?_
                refine j_iload_n (i := 3) (t := 204) C d_M_canOf_203 rfl rfl rfl ?_
                refine j_ld_ms (i := P) (t := 205) C d_M_canOf_204 hM (by first | rfl | simp only [nI_add, nI_mul, nI_1]) (by omega) (hkm2) rfl ?_
                refine j_icmp_ne (tgt := 211) (t := 208) C d_M_canOf_205 (by decide) rfl (fun h205 => absurd h205 (fun z => z (Int32.le_antisymm (Int32.not_lt.mp hs2) p2))) (fun h205 => ?_)
                refine j_iload (t := 210) C d_M_canOf_208 rfl rfl ?_
                exact j_iret C d_M_canOf_210 (by first | rfl | exact nar_b) (⟨rfl, by rw [cAt_4 hK hkn (by rw [hoP]; exact hkn2), hoP, decide_eq_true hs, decide_eq_false hs2, decide_eq_false hm, decide_eq_true hm2]; first | rfl | (rw [Bool.true_or]; rfl)⟩) (by omega) (by omega)
              · refine j_aload_n (i := 0) (t := 1) C d_M_canOf_0 rfl rfl (by first | exact jrv_r | exact jrv_n | exact jrv_f) rfl ?_
                refine j_get (t := 4) C fl_M_61 d_M_canOf_1 hM.1 rfl rfl ?_
                refine j_iload_n (i := 1) (t := 5) C d_M_canOf_4 rfl rfl rfl ?_
                refine j_ld_fi (i := k) (t := 6) C d_M_canOf_5 hM (by first | rfl | simp only [nI_add, nI_mul, nI_1]) (by omega) ((r_st k hk).2.1 hk5) rfl ?_
                refine j_istore_n (i := 2) (t := 7) (lv' := [(0, _), (1, _), (2, _)]) C d_M_canOf_6 rfl (by decide) (by decide) rfl rfl ?_
                refine j_aload_n (i := 0) (t := 8) C d_M_canOf_7 rfl rfl (by first | exact jrv_r | exact jrv_n | exact jrv_f) rfl ?_
                refine j_get (t := 11) C fl_M_58 d_M_canOf_8 hM.1 rfl rfl ?_
                refine j_iload_n (i := 1) (t := 12) C d_M_canOf_11 rfl rfl rfl ?_
                refine j_ld_kd (i := k) (t := 13) C d_M_canOf_12 hM (by first | rfl | simp only [nI_add, nI_mul, nI_1]) (by omega) ((r_st k hk).1.trans hK) rfl ?_
                refine j_iconst (x := 4) (t := 14) C d_M_canOf_13 rfl rfl ?_
                refine j_icmp_ne (tgt := 26) (t := 17) C d_M_canOf_14 (by decide) rfl (fun h14 => absurd h14 (by decide)) (fun h14 => ?_)
                refine j_aload_n (i := 0) (t := 18) C d_M_canOf_17 rfl rfl (by first | exact jrv_r | exact jrv_n | exact jrv_f) rfl ?_
                refine j_get (t := 21) C fl_M_67 d_M_canOf_18 hM.1 rfl rfl ?_
                refine j_iload_n (i := 1) (t := 22) C d_M_canOf_21 rfl rfl rfl ?_
                refine j_ld_ot (i := k) (t := 23) C d_M_canOf_22 hM (by first | rfl | simp only [nI_add, nI_mul, nI_1]) (by omega) ((r_st k hk).2.2.2.1.trans eP) rfl ?_
                refine j_goto (tgt := 27) C d_M_canOf_23 (by decide) ?_
                refine j_istore_n (i := 3) (t := 28) (lv' := [(0, _), (1, _), (2, _), (3, _)]) C d_M_canOf_27 rfl (by decide) (by decide) rfl rfl ?_
                refine j_aload_n (i := 0) (t := 29) C d_M_canOf_28 rfl rfl (by first | exact jrv_r | exact jrv_n | exact jrv_f) rfl ?_
                refine j_get (t := 32) C fl_M_45 d_M_canOf_29 hM.1 rfl rfl ?_
                refine j_iload_n (i := 2) (t := 33) C d_M_canOf_32 rfl rfl rfl ?_
                refine j_ld_kn (i := g_sc s k) (t := 34) C d_M_canOf_33 hM (by first | rfl | simp only [nI_add, nI_mul, nI_1]) (by omega) (hknM) rfl ?_
                refine j_if_eq (tgt := 46) (t := 37) C d_M_canOf_34 (by decide) rfl (fun h34 => absurd h34 (by decide)) (fun h34 => ?_)
                refine j_aload_n (i := 0) (t := 38) C d_M_canOf_37 rfl rfl (by first | exact jrv_r | exact jrv_n | exact jrv_f) rfl ?_
                refine j_get (t := 41) C fl_M_45 d_M_canOf_38 hM.1 rfl rfl ?_
                refine j_iload_n (i := 3) (t := 42) C d_M_canOf_41 rfl rfl rfl ?_
                refine j_ld_kn (i := P) (t := 43) C d_M_canOf_42 hM (by first | rfl | simp only [nI_add, nI_mul, nI_1]) (by omega) (hknM2) rfl ?_
                refine j_if_ne (tgt := 63) (t := 46) C d_M_canOf_43 (by decide) rfl (fun h43 => ?_) (fun h43 => absurd h43 (by decide))
                refine j_aload_n (i := 0) (t := 64) C d_M_canOf_63 rfl rfl (by first | exact jrv_r | exact jrv_n | exact jrv_f) rfl ?_
                refine j_get (t := 67) C fl_M_39 d_M_canOf_64 hM.1 rfl rfl ?_
                refine j_iload_n (i := 2) (t := 68) C d_M_canOf_67 rfl rfl rfl ?_
                refine j_ld_ms (i := g_sc s k) (t := 69) C d_M_canOf_68 hM (by first | rfl | simp only [nI_add, nI_mul, nI_1]) (by omega) (hkm) rfl ?_
                refine j_if_le (tgt := 76) (t := 72) C d_M_canOf_69 (by decide) rfl (fun h69 => ?_) (fun h69 => absurd h69 (fun z => z (Int32.not_lt.mp hm)))
                refine j_iconst (x := 0) (t := 77) C d_M_canOf_76 rfl rfl ?_
                refine j_istore (i := 4) (t := 79) (lv' := [(0, _), (1, _), (2, _), (3, _), (4, _)]) C d_M_canOf_77 (by decide) (by decide) rfl rfl ?_
                refine j_aload_n (i := 0) (t := 80) C d_M_canOf_79 rfl rfl (by first | exact jrv_r | exact jrv_n | exact jrv_f) rfl ?_
                refine j_get (t := 83) C fl_M_36 d_M_canOf_80 hM.1 rfl rfl ?_
                refine j_iload_n (i := 2) (t := 84) C d_M_canOf_83 rfl rfl rfl ?_
                refine j_ld_rw (i := g_sc s k) (t := 85) C d_M_canOf_84 hM (by first | rfl | simp only [nI_add, nI_mul, nI_1]) (by omega) (hkr) rfl ?_
                refine j_aload_n (i := 0) (t := 86) C d_M_canOf_85 rfl rfl (by first | exact jrv_r | exact jrv_n | exact jrv_f) rfl ?_
                refine j_get (t := 89) C fl_M_39 d_M_canOf_86 hM.1 rfl rfl ?_
                refine j_iload_n (i := 2) (t := 90) C d_M_canOf_89 rfl rfl rfl ?_
                refine j_ld_ms (i := g_sc s k) (t := 91) C d_M_canOf_90 hM (by first | rfl | simp only [nI_add, nI_mul, nI_1]) (by omega) (hkm) rfl ?_
                refine j_icmp_le (tgt := 98) (t := 94) C d_M_canOf_91 (by decide) rfl (fun h91 => absurd h91 (Int32.not_le.mpr hs)) (fun h91 => ?_)
                refine j_iconst (x := 1) (t := 95) C d_M_canOf_94 rfl rfl ?_
                refine j_goto (tgt := 99) C d_M_canOf_95 (by decide) ?_
                refine j_istore (i := 5) (t := 101) (lv' := [(0, _), (1, _), (2, _), (3, _), (4, _), (5, _)]) C d_M_canOf_99 (by decide) (by decide) rfl rfl ?_
                refine j_aload_n (i := 0) (t := 102) C d_M_canOf_101 rfl rfl (by first | exact jrv_r | exact jrv_n | exact jrv_f) rfl ?_
                refine j_get (t := 105) C fl_M_58 d_M_canOf_102 hM.1 rfl rfl ?_
                refine j_iload_n (i := 1) (t := 106) C d_M_canOf_105 rfl rfl rfl ?_
                refine j_ld_kd (i := k) (t := 107) C d_M_canOf_106 hM (by first | rfl | simp only [nI_add, nI_mul, nI_1]) (by omega) ((r_st k hk).1.trans hK) rfl ?_
                refine j_iconst (x := 2) (t := 108) C d_M_canOf_107 rfl rfl ?_
                refine j_icmp_ge (tgt := 167) (t := 111) C d_M_canOf_108 (by decide) rfl (fun h108 => ?_) (fun h108 => absurd h108 (by decide))
                refine j_iload (t := 169) C d_M_canOf_167 rfl rfl ?_
                refine j_if_ne (tgt := 181) (t := 172) C d_M_canOf_169 (by decide) rfl (fun h169 => absurd h169 (fun z => z rfl)) (fun h169 => ?_)
                refine j_aload_n (i := 0) (t := 173) C d_M_canOf_172 rfl rfl (by first | exact jrv_r | exact jrv_n | exact jrv_f) rfl ?_
                refine j_get (t := 176) C fl_M_39 d_M_canOf_173 hM.1 rfl rfl ?_
                refine j_iload_n (i := 3) (t := 177) C d_M_canOf_176 rfl rfl rfl ?_
                refine j_ld_ms (i := P) (t := 178) C d_M_canOf_177 hM (by first | rfl | simp only [nI_add, nI_mul, nI_1]) (by omega) (hkm2) rfl ?_
                refine j_if_le (tgt := 185) (t := 181) C d_M_canOf_178 (by decide) rfl (fun h178 => ?_) (fun h178 => absurd h178 (fun z => z (Int32.not_lt.mp hm2)))
                refine j_iconst (x := 0) (t := 186) C d_M_canOf_185 rfl rfl ?_
                refine j_istore (i := 6) (t := 188) (lv' := [(0, _), (1, _), (2, _), (3, _), (4, _), (5, _), (6, _)]) C d_M_canOf_186 (by decide) (by decide) rfl rfl ?_
                refine j_iload (t := 190) C d_M_canOf_188 rfl rfl ?_
                refine j_if_eq (tgt := 208) (t := 193) C d_M_canOf_190 (by decide) rfl (fun h190 => absurd h190 (by decide)) (fun h190 => ?_)
                refine j_aload_n (i := 0) (t := 194) C d_M_canOf_193 rfl rfl (by first | exact jrv_r | exact jrv_n | exact jrv_f) rfl ?_
                refine j_get (t := 197) C fl_M_36 d_M_canOf_194 hM.1 rfl rfl ?_
                refine j_iload_n (i := 3) (t := 198) C d_M_canOf_197 rfl rfl rfl ?_
                refine j_ld_rw (i := P) (t := 199) C d_M_canOf_198 hM (by first | rfl | simp only [nI_add, nI_mul, nI_1]) (by omega) (hkr2) rfl ?_
                refine j_aload_n (i := 0) (t := 200) C d_M_canOf_199 rfl rfl (by first | exact jrv_r | exact jrv_n | exact jrv_f) rfl ?_
                refine j_get (t := 203) C fl_M_39 d_M_canOf_200 hM.1 rfl rfl ?_
                refine j_iload_n (i := 3) (t := 204) C d_M_canOf_203 rfl rfl rfl ?_
                refine j_ld_ms (i := P) (t := 205) C d_M_canOf_204 hM (by first | rfl | simp only [nI_add, nI_mul, nI_1]) (by omega) (hkm2) rfl ?_
                refine j_icmp_ne (tgt := 211) (t := 208) C d_M_canOf_205 (by decide) rfl (fun h205 => absurd h205 (fun z => z (Int32.le_antisymm (Int32.not_lt.mp hs2) p2))) (fun h205 => ?_)
                refine j_iload (t := 210) C d_M_canOf_208 rfl rfl ?_
                exact j_iret C d_M_canOf_210 (by first | rfl | exact nar_b) (⟨rfl, by rw [cAt_4 hK hkn (by rw [hoP]; exact hkn2), hoP, decide_eq_true hs, decide_eq_false hs2, decide_eq_false hm, decide_eq_false hm2]; first | rfl | (rw [Bool.true_or]; rfl)⟩) (by omega) (by omega)
        · by_cases hm : 0 < g_km s (g_sc s k)
          · refine j_aload_n (i := 0) (t := 1) C d_M_canOf_0 rfl rfl (by first | exact jrv_r | exact jrv_n | exact jrv_f) rfl ?_
            refine j_get (t := 4) C fl_M_61 d_M_canOf_1 hM.1 rfl rfl ?_
            refine j_iload_n (i := 1) (t := 5) C d_M_canOf_4 rfl rfl rfl ?_
            refine j_ld_fi (i := k) (t := 6) C d_M_canOf_5 hM (by first | rfl | simp only [nI_add, nI_mul, nI_1]) (by omega) ((r_st k hk).2.1 hk5) rfl ?_
            refine j_istore_n (i := 2) (t := 7) (lv' := [(0, _), (1, _), (2, _)]) C d_M_canOf_6 rfl (by decide) (by decide) rfl rfl ?_
            refine j_aload_n (i := 0) (t := 8) C d_M_canOf_7 rfl rfl (by first | exact jrv_r | exact jrv_n | exact jrv_f) rfl ?_
            refine j_get (t := 11) C fl_M_58 d_M_canOf_8 hM.1 rfl rfl ?_
            refine j_iload_n (i := 1) (t := 12) C d_M_canOf_11 rfl rfl rfl ?_
            refine j_ld_kd (i := k) (t := 13) C d_M_canOf_12 hM (by first | rfl | simp only [nI_add, nI_mul, nI_1]) (by omega) ((r_st k hk).1.trans hK) rfl ?_
            refine j_iconst (x := 4) (t := 14) C d_M_canOf_13 rfl rfl ?_
            refine j_icmp_ne (tgt := 26) (t := 17) C d_M_canOf_14 (by decide) rfl (fun h14 => absurd h14 (by decide)) (fun h14 => ?_)
            refine j_aload_n (i := 0) (t := 18) C d_M_canOf_17 rfl rfl (by first | exact jrv_r | exact jrv_n | exact jrv_f) rfl ?_
            refine j_get (t := 21) C fl_M_67 d_M_canOf_18 hM.1 rfl rfl ?_
            refine j_iload_n (i := 1) (t := 22) C d_M_canOf_21 rfl rfl rfl ?_
            refine j_ld_ot (i := k) (t := 23) C d_M_canOf_22 hM (by first | rfl | simp only [nI_add, nI_mul, nI_1]) (by omega) ((r_st k hk).2.2.2.1.trans eP) rfl ?_
            refine j_goto (tgt := 27) C d_M_canOf_23 (by decide) ?_
            refine j_istore_n (i := 3) (t := 28) (lv' := [(0, _), (1, _), (2, _), (3, _)]) C d_M_canOf_27 rfl (by decide) (by decide) rfl rfl ?_
            refine j_aload_n (i := 0) (t := 29) C d_M_canOf_28 rfl rfl (by first | exact jrv_r | exact jrv_n | exact jrv_f) rfl ?_
            refine j_get (t := 32) C fl_M_45 d_M_canOf_29 hM.1 rfl rfl ?_
            refine j_iload_n (i := 2) (t := 33) C d_M_canOf_32 rfl rfl rfl ?_
            refine j_ld_kn (i := g_sc s k) (t := 34) C d_M_canOf_33 hM (by first | rfl | simp only [nI_add, nI_mul, nI_1]) (by omega) (hknM) rfl ?_
            refine j_if_eq (tgt := 46) (t := 37) C d_M_canOf_34 (by decide) rfl (fun h34 => absurd h34 (by decide)) (fun h34 => ?_)
            refine j_aload_n (i := 0) (t := 38) C d_M_canOf_37 rfl rfl (by first | exact jrv_r | exact jrv_n | exact jrv_f) rfl ?_
            refine j_get (t := 41) C fl_M_45 d_M_canOf_38 hM.1 rfl rfl ?_
            refine j_iload_n (i := 3) (t := 42) C d_M_canOf_41 rfl rfl rfl ?_
            refine j_ld_kn (i := P) (t := 43) C d_M_canOf_42 hM (by first | rfl | simp only [nI_add, nI_mul, nI_1]) (by omega) (hknM2) rfl ?_
            refine j_if_ne (tgt := 63) (t := 46) C d_M_canOf_43 (by decide) rfl (fun h43 => ?_) (fun h43 => absurd h43 (by decide))
            refine j_aload_n (i := 0) (t := 64) C d_M_canOf_63 rfl rfl (by first | exact jrv_r | exact jrv_n | exact jrv_f) rfl ?_
            refine j_get (t := 67) C fl_M_39 d_M_canOf_64 hM.1 rfl rfl ?_
            refine j_iload_n (i := 2) (t := 68) C d_M_canOf_67 rfl rfl rfl ?_
            refine j_ld_ms (i := g_sc s k) (t := 69) C d_M_canOf_68 hM (by first | rfl | simp only [nI_add, nI_mul, nI_1]) (by omega) (hkm) rfl ?_
            refine j_if_le (tgt := 76) (t := 72) C d_M_canOf_69 (by decide) rfl (fun h69 => absurd h69 (Int32.not_le.mpr hm)) (fun h69 => ?_)
            refine j_iconst (x := 1) (t := 73) C d_M_canOf_72 rfl rfl ?_
            refine j_goto (tgt := 77) C d_M_canOf_73 (by decide) ?_
            refine j_istore (i := 4) (t := 79) (lv' := [(0, _), (1, _), (2, _), (3, _), (4, _)]) C d_M_canOf_77 (by decide) (by decide) rfl rfl ?_
            refine j_aload_n (i := 0) (t := 80) C d_M_canOf_79 rfl rfl (by first | exact jrv_r | exact jrv_n | exact jrv_f) rfl ?_
            refine j_get (t := 83) C fl_M_36 d_M_canOf_80 hM.1 rfl rfl ?_
            refine j_iload_n (i := 2) (t := 84) C d_M_canOf_83 rfl rfl rfl ?_
            refine j_ld_rw (i := g_sc s k) (t := 85) C d_M_canOf_84 hM (by first | rfl | simp only [nI_add, nI_mul, nI_1]) (by omega) (hkr) rfl ?_
            refine j_aload_n (i := 0) (t := 86) C d_M_canOf_85 rfl rfl (by first | exact jrv_r | exact jrv_n | exact jrv_f) rfl ?_
            refine j_get (t := 89) C fl_M_39 d_M_canOf_86 hM.1 rfl rfl ?_
            refine j_iload_n (i := 2) (t := 90) C d_M_canOf_89 rfl rfl rfl ?_
            refine j_ld_ms (i := g_sc s k) (t := 91) C d_M_canOf_90 hM (by first | rfl | simp only [nI_add, nI_mul, nI_1]) (by omega) (hkm) rfl ?_
            refine j_icmp_le (tgt := 98) (t := 94) C d_M_canOf_91 (by decide) rfl (fun h91 => ?_) (fun h91 => absurd h91 (fun z => z (Int32.not_lt.mp hs)))
            refine j_iconst (x := 0) (t := 99) C d_M_canOf_98 rfl rfl ?_
            refine j_istore (i := 5) (t := 101) (lv' := [(0, _), (1, _), (2, _), (3, _), (4, _), (5, _)]) C d_M_canOf_99 (by decide) (by decide) rfl rfl ?_
            refine j_aload_n (i := 0) (t := 102) C d_M_canOf_101 rfl rfl (by first | exact jrv_r | exact jrv_n | exact jrv_f) rfl ?_
            refine j_get (t := 105) C fl_M_58 d_M_canOf_102 hM.1 rfl rfl ?_
            refine j_iload_n (i := 1) (t := 106) C d_M_canOf_105 rfl rfl rfl ?_
            refine j_ld_kd (i := k) (t := 107) C d_M_canOf_106 hM (by first | rfl | simp only [nI_add, nI_mul, nI_1]) (by omega) ((r_st k hk).1.trans hK) rfl ?_
            refine j_iconst (x := 2) (t := 108) C d_M_canOf_107 rfl rfl ?_
            refine j_icmp_ge (tgt := 167) (t := 111) C d_M_canOf_108 (by decide) rfl (fun h108 => ?_) (fun h108 => absurd h108 (by decide))
            refine j_iload (t := 169) C d_M_canOf_167 rfl rfl ?_
            refine j_if_ne (tgt := 181) (t := 172) C d_M_canOf_169 (by decide) rfl (fun h169 => ?_) (fun h169 => absurd h169 (by decide))
            refine j_iconst (x := 4) (t := 182) C d_M_canOf_181 rfl rfl ?_
            refine j_goto (tgt := 186) C d_M_canOf_182 (by decide) ?_
            refine j_istore (i := 6) (t := 188) (lv' := [(0, _), (1, _), (2, _), (3, _), (4, _), (5, _), (6, _)]) C d_M_canOf_186 (by decide) (by decide) rfl rfl ?_
            refine j_iload (t := 190) C d_M_canOf_188 rfl rfl ?_
            refine j_if_eq (tgt := 208) (t := 193) C d_M_canOf_190 (by decide) rfl (fun h190 => ?_) (fun h190 => absurd h190 (fun z => z rfl))
            refine j_iload (t := 210) C d_M_canOf_208 rfl rfl ?_
            exact j_iret C d_M_canOf_210 (by first | rfl | exact nar_b) (⟨rfl, by rw [cAt_4 hK hkn (by rw [hoP]; exact hkn2), hoP, decide_eq_false hs, decide_eq_true hm]; first | rfl | (rw [Bool.true_or]; rfl)⟩) (by omega) (by omega)
          · by_cases hm2 : 0 < g_km s P
            · refine j_aload_n (i := 0) (t := 1) C d_M_canOf_0 rfl rfl (by first | exact jrv_r | exact jrv_n | exact jrv_f) rfl ?_
              refine j_get (t := 4) C fl_M_61 d_M_canOf_1 hM.1 rfl rfl ?_
              refine j_iload_n (i := 1) (t := 5) C d_M_canOf_4 rfl rfl rfl ?_
              refine j_ld_fi (i := k) (t := 6) C d_M_canOf_5 hM (by first | rfl | simp only [nI_add, nI_mul, nI_1]) (by omega) ((r_st k hk).2.1 hk5) rfl ?_
              refine j_istore_n (i := 2) (t := 7) (lv' := [(0, _), (1, _), (2, _)]) C d_M_canOf_6 rfl (by decide) (by decide) rfl rfl ?_
              refine j_aload_n (i := 0) (t := 8) C d_M_canOf_7 rfl rfl (by first | exact jrv_r | exact jrv_n | exact jrv_f) rfl ?_
              refine j_get (t := 11) C fl_M_58 d_M_canOf_8 hM.1 rfl rfl ?_
              refine j_iload_n (i := 1) (t := 12) C d_M_canOf_11 rfl rfl rfl ?_
              refine j_ld_kd (i := k) (t := 13) C d_M_canOf_12 hM (by first | rfl | simp only [nI_add, nI_mul, nI_1]) (by omega) ((r_st k hk).1.trans hK) rfl ?_
              refine j_iconst (x := 4) (t := 14) C d_M_canOf_13 rfl rfl ?_
              refine j_icmp_ne (tgt := 26) (t := 17) C d_M_canOf_14 (by decide) rfl (fun h14 => absurd h14 (by decide)) (fun h14 => ?_)
              refine j_aload_n (i := 0) (t := 18) C d_M_canOf_17 rfl rfl (by first | exact jrv_r | exact jrv_n | exact jrv_f) rfl ?_
              refine j_get (t := 21) C fl_M_67 d_M_canOf_18 hM.1 rfl rfl ?_
              refine j_iload_n (i := 1) (t := 22) C d_M_canOf_21 rfl rfl rfl ?_
              refine j_ld_ot (i := k) (t := 23) C d_M_canOf_22 hM (by first | rfl | simp only [nI_add, nI_mul, nI_1]) (by omega) ((r_st k hk).2.2.2.1.trans eP) rfl ?_
              refine j_goto (tgt := 27) C d_M_canOf_23 (by decide) ?_
              refine j_istore_n (i := 3) (t := 28) (lv' := [(0, _), (1, _), (2, _), (3, _)]) C d_M_canOf_27 rfl (by decide) (by decide) rfl rfl ?_
              refine j_aload_n (i := 0) (t := 29) C d_M_canOf_28 rfl rfl (by first | exact jrv_r | exact jrv_n | exact jrv_f) rfl ?_
              refine j_get (t := 32) C fl_M_45 d_M_canOf_29 hM.1 rfl rfl ?_
              refine j_iload_n (i := 2) (t := 33) C d_M_canOf_32 rfl rfl rfl ?_
              refine j_ld_kn (i := g_sc s k) (t := 34) C d_M_canOf_33 hM (by first | rfl | simp only [nI_add, nI_mul, nI_1]) (by omega) (hknM) rfl ?_
              refine j_if_eq (tgt := 46) (t := 37) C d_M_canOf_34 (by decide) rfl (fun h34 => absurd h34 (by decide)) (fun h34 => ?_)
              refine j_aload_n (i := 0) (t := 38) C d_M_canOf_37 rfl rfl (by first | exact jrv_r | exact jrv_n | exact jrv_f) rfl ?_
              refine j_get (t := 41) C fl_M_45 d_M_canOf_38 hM.1 rfl rfl ?_
              refine j_iload_n (i := 3) (t := 42) C d_M_canOf_41 rfl rfl rfl ?_
              refine j_ld_kn (i := P) (t := 43) C d_M_canOf_42 hM (by first | rfl | simp only [nI_add, nI_mul, nI_1]) (by omega) (hknM2) rfl ?_
              refine j_if_ne (tgt := 63) (t := 46) C d_M_canOf_43 (by decide) rfl (fun h43 => ?_) (fun h43 => absurd h43 (by decide))
              refine j_aload_n (i := 0) (t := 64) C d_M_canOf_63 rfl rfl (by first | exact jrv_r | exact jrv_n | exact jrv_f) rfl ?_
              refine j_get (t := 67) C fl_M_39 d_M_canOf_64 hM.1 rfl rfl ?_
              refine j_iload_n (i := 2) (t := 68) C d_M_canOf_67 rfl rfl rfl ?_
              refine j_ld_ms (i := g_sc s k) (t := 69) C d_M_canOf_68 hM (by first | rfl | simp only [nI_add, nI_mul, nI_1]) (by omega) (hkm) rfl ?_
              refine j_if_le (tgt := 76) (t := 72) C d_M_canOf_69 (by decide) rfl (fun h69 => ?_) (fun h69 => absurd h69 (fun z => z (Int32.not_lt.mp hm)))
              refine j_iconst (x := 0) (t := 77) C d_M_canOf_76 rfl rfl ?_
              refine j_istore (i := 4) (t := 79) (lv' := [(0, _), (1, _), (2, _), (3, _), (4, _)]) C d_M_canOf_77 (by decide) (by decide) rfl rfl ?_
              refine j_aload_n (i := 0) (t := 80) C d_M_canOf_79 rfl rfl (by first | exact jrv_r | exact jrv_n | exact jrv_f) rfl ?_
              refine j_get (t := 83) C fl_M_36 d_M_canOf_80 hM.1 rfl rfl ?_
              refine j_iload_n (i := 2) (t := 84) C d_M_canOf_83 rfl rfl rfl ?_
              refine j_ld_rw (i := g_sc s k) (t := 85) C d_M_canOf_84 hM (by first | rfl | simp only [nI_add, nI_mul, nI_1]) (by omega) (hkr) rfl ?_
              refine j_aload_n (i := 0) (t := 86) C d_M_canOf_85 rfl rfl (by first | exact jrv_r | exact jrv_n | exact jrv_f) rfl ?_
              refine j_get (t := 89) C fl_M_39 d_M_canOf_86 hM.1 rfl rfl ?_
              refine j_iload_n (i := 2) (t := 90) C d_M_canOf_89 rfl rfl rfl ?_
              refine j_ld_ms (i := g_sc s k) (t := 91) C d_M_canOf_90 hM (by first | rfl | simp only [nI_add, nI_mul, nI_1]) (by omega) (hkm) rfl ?_
              refine j_icmp_le (tgt := 98) (t := 94) C d_M_canOf_91 (by decide) rfl (fun h91 => ?_) (fun h91 => absurd h91 (fun z => z (Int32.not_lt.mp hs)))
              refine j_iconst (x := 0) (t := 99) C d_M_canOf_98 rfl rfl ?_
              refine j_istore (i := 5) (t := 101) (lv' := [(0, _), (1, _), (2, _), (3, _), (4, _), (5, _)]) C d_M_canOf_99 (by decide) (by decide) rfl rfl ?_
              refine j_aload_n (i := 0) (t := 102) C d_M_canOf_101 rfl rfl (by first | exact jrv_r | exact jrv_n | exact jrv_f) rfl ?_
              refine j_get (t := 105) C fl_M_58 d_M_canOf_102 hM.1 rfl rfl ?_
              refine j_iload_n (i := 1) (t := 106) C d_M_canOf_105 rfl rfl rfl ?_
              refine j_ld_kd (i := k) (t := 107) C d_M_canOf_106 hM (by first | rfl | simp only [nI_add, nI_mul, nI_1]) (by omega) ((r_st k hk).1.trans hK) rfl ?_
              refine j_iconst (x := 2) (t := 108) C d_M_canOf_107 rfl rfl ?_
              refine j_icmp_ge (tgt := 167) (t := 111) C d_M_canOf_108 (by decide) rfl (fun h108 => ?_) (fun h108 => absurd h108 (by decide))
              refine j_iload (t := 169) C d_M_canOf_167 rfl rfl ?_
              refine j_if_ne (tgt := 181) (t := 172) C d_M_canOf_169 (by decide) rfl (fun h169 => absurd h169 (fun z => z rfl)) (fun h169 => ?_)
              refine j_aload_n (i := 0) (t := 173) C d_M_canOf_172 rfl rfl (by first | exact jrv_r | exact jrv_n | exact jrv_f) rfl ?_
              refine j_get (t := 176) C fl_M_39 d_M_canOf_173 hM.1 rfl rfl ?_
              refine j_iload_n (i := 3) (t := 177) C d_M_canOf_176 rfl rfl rfl ?_
              refine j_ld_ms (i := P) (t := 178) C d_M_canOf_177 hM (by first | rfl | simp only [nI_add, nI_mul, nI_1]) (by omega) (hkm2) rfl ?_
              refine j_if_le (tgt := 185) (t := 181) C d_M_canOf_178 (by decide) rfl (fun h178 => absurd h178 (Int32.not_le.mpr hm2)) (fun h178 => ?_)
              refine j_iconst (x := 4) (t := 182) C d_M_canOf_181 rfl rfl ?_
              refine j_goto (tgt := 186) C d_M_canOf_182 (by decide) ?_
              refine j_istore (i := 6) (t := 188) (lv' := [(0, _), (1, _), (2, _), (3, _), (4, _), (5, _), (6, _)]) C d_M_canOf_186 (by decide) (by decide) rfl rfl ?_
              refine j_iload (t := 190) C d_M_canOf_188 rfl rfl ?_
              refine j_if_eq (tgt := 208) (t := 193) C d_M_canOf_190 (by decide) rfl (fun h190 => ?_) (fun h190 => absurd h190 (fun z => z rfl))
              refine j_iload (t := 210) C d_M_canOf_208 rfl rfl ?_
              exact j_iret C d_M_canOf_210 (by first | rfl | exact nar_b) (⟨rfl, by rw [cAt_4 hK hkn (by rw [hoP]; exact hkn2), hoP, decide_eq_false hs, decide_eq_false hm, decide_eq_true hm2]; first | rfl | (rw [Bool.true_or]; rfl)⟩) (by omega) (by omega)
            · refine j_aload_n (i := 0) (t := 1) C d_M_canOf_0 rfl rfl (by first | exact jrv_r | exact jrv_n | exact jrv_f) rfl ?_
              refine j_get (t := 4) C fl_M_61 d_M_canOf_1 hM.1 rfl rfl ?_
              refine j_iload_n (i := 1) (t := 5) C d_M_canOf_4 rfl rfl rfl ?_
              refine j_ld_fi (i := k) (t := 6) C d_M_canOf_5 hM (by first | rfl | simp only [nI_add, nI_mul, nI_1]) (by omega) ((r_st k hk).2.1 hk5) rfl ?_
              refine j_istore_n (i := 2) (t := 7) (lv' := [(0, _), (1, _), (2, _)]) C d_M_canOf_6 rfl (by decide) (by decide) rfl rfl ?_
              refine j_aload_n (i := 0) (t := 8) C d_M_canOf_7 rfl rfl (by first | exact jrv_r | exact jrv_n | exact jrv_f) rfl ?_
              refine j_get (t := 11) C fl_M_58 d_M_canOf_8 hM.1 rfl rfl ?_
              refine j_iload_n (i := 1) (t := 12) C d_M_canOf_11 rfl rfl rfl ?_
              refine j_ld_kd (i := k) (t := 13) C d_M_canOf_12 hM (by first | rfl | simp only [nI_add, nI_mul, nI_1]) (by omega) ((r_st k hk).1.trans hK) rfl ?_
              refine j_iconst (x := 4) (t := 14) C d_M_canOf_13 rfl rfl ?_
              refine j_icmp_ne (tgt := 26) (t := 17) C d_M_canOf_14 (by decide) rfl (fun h14 => absurd h14 (by decide)) (fun h14 => ?_)
              refine j_aload_n (i := 0) (t := 18) C d_M_canOf_17 rfl rfl (by first | exact jrv_r | exact jrv_n | exact jrv_f) rfl ?_
              refine j_get (t := 21) C fl_M_67 d_M_canOf_18 hM.1 rfl rfl ?_
              refine j_iload_n (i := 1) (t := 22) C d_M_canOf_21 rfl rfl rfl ?_
              refine j_ld_ot (i := k) (t := 23) C d_M_canOf_22 hM (by first | rfl | simp only [nI_add, nI_mul, nI_1]) (by omega) ((r_st k hk).2.2.2.1.trans eP) rfl ?_
              refine j_goto (tgt := 27) C d_M_canOf_23 (by decide) ?_
              refine j_istore_n (i := 3) (t := 28) (lv' := [(0, _), (1, _), (2, _), (3, _)]) C d_M_canOf_27 rfl (by decide) (by decide) rfl rfl ?_
              refine j_aload_n (i := 0) (t := 29) C d_M_canOf_28 rfl rfl (by first | exact jrv_r | exact jrv_n | exact jrv_f) rfl ?_
              refine j_get (t := 32) C fl_M_45 d_M_canOf_29 hM.1 rfl rfl ?_
              refine j_iload_n (i := 2) (t := 33) C d_M_canOf_32 rfl rfl rfl ?_
              refine j_ld_kn (i := g_sc s k) (t := 34) C d_M_canOf_33 hM (by first | rfl | simp only [nI_add, nI_mul, nI_1]) (by omega) (hknM) rfl ?_
              refine j_if_eq (tgt := 46) (t := 37) C d_M_canOf_34 (by decide) rfl (fun h34 => absurd h34 (by decide)) (fun h34 => ?_)
              refine j_aload_n (i := 0) (t := 38) C d_M_canOf_37 rfl rfl (by first | exact jrv_r | exact jrv_n | exact jrv_f) rfl ?_
              refine j_get (t := 41) C fl_M_45 d_M_canOf_38 hM.1 rfl rfl ?_
              refine j_iload_n (i := 3) (t := 42) C d_M_canOf_41 rfl rfl rfl ?_
              refine j_ld_kn (i := P) (t := 43) C d_M_canOf_42 hM (by first | rfl | simp only [nI_add, nI_mul, nI_1]) (by omega) (hknM2) rfl ?_
              refine j_if_ne (tgt := 63) (t := 46) C d_M_canOf_43 (by decide) rfl (fun h43 => ?_) (fun h43 => absurd h43 (by decide))
              refine j_aload_n (i := 0) (t := 64) C d_M_canOf_63 rfl rfl (by first | exact jrv_r | exact jrv_n | exact jrv_f) rfl ?_
              refine j_get (t := 67) C fl_M_39 d_M_canOf_64 hM.1 rfl rfl ?_
              refine j_iload_n (i := 2) (t := 68) C d_M_canOf_67 rfl rfl rfl ?_
              refine j_ld_ms (i := g_sc s k) (t := 69) C d_M_canOf_68 hM (by first | rfl | simp only [nI_add, nI_mul, nI_1]) (by omega) (hkm) rfl ?_
              refine j_if_le (tgt := 76) (t := 72) C d_M_canOf_69 (by decide) rfl (fun h69 => ?_) (fun h69 => absurd h69 (fun z => z (Int32.not_lt.mp hm)))
              refine j_iconst (x := 0) (t := 77) C d_M_canOf_76 rfl rfl ?_
              refine j_istore (i := 4) (t := 79) (lv' := [(0, _), (1, _), (2, _), (3, _), (4, _)]) C d_M_canOf_77 (by decide) (by decide) rfl rfl ?_
              refine j_aload_n (i := 0) (t := 80) C d_M_canOf_79 rfl rfl (by first | exact jrv_r | exact jrv_n | exact jrv_f) rfl ?_
              refine j_get (t := 83) C fl_M_36 d_M_canOf_80 hM.1 rfl rfl ?_
              refine j_iload_n (i := 2) (t := 84) C d_M_canOf_83 rfl rfl rfl ?_
              refine j_ld_rw (i := g_sc s k) (t := 85) C d_M_canOf_84 hM (by first | rfl | simp only [nI_add, nI_mul, nI_1]) (by omega) (hkr) rfl ?_
              refine j_aload_n (i := 0) (t := 86) C d_M_canOf_85 rfl rfl (by first | exact jrv_r | exact jrv_n | exact jrv_f) rfl ?_
              refine j_get (t := 89) C fl_M_39 d_M_canOf_86 hM.1 rfl rfl ?_
              refine j_iload_n (i := 2) (t := 90) C d_M_canOf_89 rfl rfl rfl ?_
              refine j_ld_ms (i := g_sc s k) (t := 91) C d_M_canOf_90 hM (by first | rfl | simp only [nI_add, nI_mul, nI_1]) (by omega) (hkm) rfl ?_
              refine j_icmp_le (tgt := 98) (t := 94) C d_M_canOf_91 (by decide) rfl (fun h91 => ?_) (fun h91 => absurd h91 (fun z => z (Int32.not_lt.mp hs)))
              refine j_iconst (x := 0) (t := 99) C d_M_canOf_98 rfl rfl ?_
              refine j_istore (i := 5) (t := 101) (lv' := [(0, _), (1, _), (2, _), (3, _), (4, _), (5, _)]) C d_M_canOf_99 (by decide) (by decide) rfl rfl ?_
              refine j_aload_n (i := 0) (t := 102) C d_M_canOf_101 rfl rfl (by first | exact jrv_r | exact jrv_n | exact jrv_f) rfl ?_
              refine j_get (t := 105) C fl_M_58 d_M_canOf_102 hM.1 rfl rfl ?_
              refine j_iload_n (i := 1) (t := 106) C d_M_canOf_105 rfl rfl rfl ?_
              refine j_ld_kd (i := k) (t := 107) C d_M_canOf_106 hM (by first | rfl | simp only [nI_add, nI_mul, nI_1]) (by omega) ((r_st k hk).1.trans hK) rfl ?_
              refine j_iconst (x := 2) (t := 108) C d_M_canOf_107 rfl rfl ?_
              refine j_icmp_ge (tgt := 167) (t := 111) C d_M_canOf_108 (by decide) rfl (fun h108 => ?_) (fun h108 => absurd h108 (by decide))
              refine j_iload (t := 169) C d_M_canOf_167 rfl rfl ?_
              refine j_if_ne (tgt := 181) (t := 172) C d_M_canOf_169 (by decide) rfl (fun h169 => absurd h169 (fun z => z rfl)) (fun h169 => ?_)
              refine j_aload_n (i := 0) (t := 173) C d_M_canOf_172 rfl rfl (by first | exact jrv_r | exact jrv_n | exact jrv_f) rfl ?_
              refine j_get (t := 176) C fl_M_39 d_M_canOf_173 hM.1 rfl rfl ?_
              refine j_iload_n (i := 3) (t := 177) C d_M_canOf_176 rfl rfl rfl ?_
              refine j_ld_ms (i := P) (t := 178) C d_M_canOf_177 hM (by first | rfl | simp only [nI_add, nI_mul, nI_1]) (by omega) (hkm2) rfl ?_
              refine j_if_le (tgt := 185) (t := 181) C d_M_canOf_178 (by decide) rfl (fun h178 => ?_) (fun h178 => absurd h178 (fun z => z (Int32.not_lt.mp hm2)))
              refine j_iconst (x := 0) (t := 186) C d_M_canOf_185 rfl rfl ?_
              refine j_istore (i := 6) (t := 188) (lv' := [(0, _), (1, _), (2, _), (3, _), (4, _), (5, _), (6, _)]) C d_M_canOf_186 (by decide) (by decide) rfl rfl ?_
              refine j_iload (t := 190) C d_M_canOf_188 rfl rfl ?_
              refine j_if_eq (tgt := 208) (t := 193) C d_M_canOf_190 (by decide) rfl (fun h190 => ?_) (fun h190 => absurd h190 (fun z => z rfl))
              refine j_iload (t := 210) C d_M_canOf_208 rfl rfl ?_
              exact j_iret C d_M_canOf_210 (by first | rfl | exact nar_b) (⟨rfl, by rw [cAt_4 hK hkn (by rw [hoP]; exact hkn2), hoP, decide_eq_false hs, decide_eq_false hm, decide_eq_false hm2]; first | rfl | (rw [Bool.true_or]; rfl)⟩) (by omega) (by omega)
