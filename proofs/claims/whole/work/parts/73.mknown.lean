set_option maxHeartbeats 4000000 in
set_option maxRecDepth 100000 in
/-- known -/
theorem c_M_known (l : Launch) (o : Nat) (s : jS) (x a b : Int32) : MC l y_M_known b_M_known 5 ((some .boolean)) 2 0 0
    (fun G w av => av = [.ref o, .int x, .int a, .int b] ∧ RepM G w o s ∧ WF s)
    (fun G w av r w' => r = some (.int (sp_known s x a b).1) ∧ RepM G w' o (sp_known s x a b).2) := by
  refine MC.of 99 (by decide) ?_
  intro X w av hl C hnm hp
  obtain ⟨rfl, ⟨q, m, hM, hR⟩, hW⟩ := hp
  obtain ⟨wtn, wtp, wcc, wln, wsn, wzn, wcol, wlit, wst, wzt⟩ := id hW
  refine ⟨[(0, _), (1, _), (2, _), (3, _)], rfl, Nat.le_of_ble_eq_true rfl, rfl, ?_⟩
  refine j_aload_n (i := 0) (t := 1) C d_M_known_0 rfl rfl (by first | exact jrv_r | exact jrv_n | exact jrv_f) rfl ?_
  refine j_iconst (x := 0) (t := 2) C d_M_known_1 rfl rfl ?_
  refine j_pt_cd (t := 5) C fp_M_79 d_M_known_2 hM rfl (fun w2 M2 => ?_)
  obtain ⟨n, M2, hR⟩ : ∃ n : jM, MH (xG X) w2 o q n ∧ relM s n := ⟨_, M2, relM_cd hR⟩
  obtain ⟨⟨r_tn, r_tp⟩, ⟨r_cc, r_ln, r_sn, r_zn⟩, r_col, r_new, r_sz, r_lit, r_st, r_zt⟩ := id hR
  refine j_aload_n (i := 0) (t := 6) C d_M_known_5 rfl rfl (by first | exact jrv_r | exact jrv_n | exact jrv_f) rfl ?_
  refine j_iload_n (i := 1) (t := 7) C d_M_known_6 rfl rfl rfl ?_
  refine j_callV (As := [_]) (t := 10) C (c_M_isColumn _ o q n s x) d_M_known_7 jb_M_isColumn ml_M_89 jv_M_isColumn M2.1 rfl rfl rfl (Nat.le_of_ble_eq_true rfl) (by decide) (by omega) (by omega) (⟨rfl, M2, r_cc⟩) rfl (fun r7 w7 p7 => ?_)
  obtain ⟨rfl, rfl⟩ := p7
  dsimp only [jst]
  refine j_if_eq (tgt := 28) (t := 13) C d_M_known_10 (by decide) rfl (fun h10 => ?_) (fun h10 => ?_)
  · refine j_iconst (x := 0) (t := 29) C d_M_known_28 rfl rfl ?_
    exact j_iret C d_M_known_29 (by first | rfl | exact nar_b) (by
          first
          | (rw [known_n (ci_none h10)]; exact ⟨rfl, RepM.of M2 hR⟩)
          | (rw [known_f hcx (fun z => z.1.1 h14)]; exact ⟨rfl, RepM.of M2 hR⟩)
          | (rw [known_f hcx (fun z => Int32.not_lt.mpr z.1.2.1 h19)]; exact ⟨rfl, RepM.of M2 hR⟩)
          | (rw [known_f hcx (fun z => h25 z.1.2.2)]; exact ⟨rfl, RepM.of M2 hR⟩)) (by omega) (by omega)
  · obtain ⟨c, hcx⟩ := ci_some h10
    obtain ⟨hc, rfl⟩ := cix_some wcc hcx
    have hrc := (wcol c hc).2.1
    have h16 : c < 16 := by omega
    refine j_iload_n (i := 3) (t := 14) C d_M_known_13 rfl rfl rfl ?_
    refine j_if_lt (tgt := 28) (t := 17) C d_M_known_14 (by decide) rfl (fun h14 => ?_) (fun h14 => ?_)
    · refine j_iconst (x := 0) (t := 29) C d_M_known_28 rfl rfl ?_
      exact j_iret C d_M_known_29 (by first | rfl | exact nar_b) (by
            first
            | (rw [known_n (ci_none h10)]; exact ⟨rfl, RepM.of M2 hR⟩)
            | (rw [known_f hcx (fun z => z.1.1 h14)]; exact ⟨rfl, RepM.of M2 hR⟩)
            | (rw [known_f hcx (fun z => Int32.not_lt.mpr z.1.2.1 h19)]; exact ⟨rfl, RepM.of M2 hR⟩)
            | (rw [known_f hcx (fun z => h25 z.1.2.2)]; exact ⟨rfl, RepM.of M2 hR⟩)) (by omega) (by omega)
    · refine j_iload_n (i := 2) (t := 18) C d_M_known_17 rfl rfl rfl ?_
      refine j_iload_n (i := 3) (t := 19) C d_M_known_18 rfl rfl rfl ?_
      refine j_icmp_lt (tgt := 28) (t := 22) C d_M_known_19 (by decide) rfl (fun h19 => ?_) (fun h19 => ?_)
      · refine j_iconst (x := 0) (t := 29) C d_M_known_28 rfl rfl ?_
        exact j_iret C d_M_known_29 (by first | rfl | exact nar_b) (by
              first
              | (rw [known_n (ci_none h10)]; exact ⟨rfl, RepM.of M2 hR⟩)
              | (rw [known_f hcx (fun z => z.1.1 h14)]; exact ⟨rfl, RepM.of M2 hR⟩)
              | (rw [known_f hcx (fun z => Int32.not_lt.mpr z.1.2.1 h19)]; exact ⟨rfl, RepM.of M2 hR⟩)
              | (rw [known_f hcx (fun z => h25 z.1.2.2)]; exact ⟨rfl, RepM.of M2 hR⟩)) (by omega) (by omega)
      · refine j_iload_n (i := 2) (t := 23) C d_M_known_22 rfl rfl rfl ?_
        refine j_ldc (x := nI 1000000) (t := 25) C d_M_known_23 ct_M_148 rfl ?_
        refine j_icmp_le (tgt := 30) (t := 28) C d_M_known_25 (by decide) rfl (fun h25 => ?_) (fun h25 => ?_)
        · refine j_aload_n (i := 0) (t := 31) C d_M_known_30 rfl rfl (by first | exact jrv_r | exact jrv_n | exact jrv_f) rfl ?_
          refine j_iload_n (i := 1) (t := 32) C d_M_known_31 rfl rfl rfl ?_
          refine j_iconst (x := (-1)) (t := 33) C d_M_known_32 rfl rfl ?_
          refine j_callV (As := [_, _]) (t := 36) C (c_M_mostL _ o q n s c) d_M_known_33 jb_M_most ml_M_149 jv_M_most M2.1 rfl rfl rfl (Nat.le_of_ble_eq_true rfl) (by decide) (by omega) (by omega) (⟨⟨rfl, M2, hR, hW⟩, hc⟩) rfl (fun r33 w33 p33 => ?_)
          obtain ⟨rfl, p33⟩ := p33
          rcases p33 with ⟨hno, rfl⟩ | ⟨r1, x1, hr1, fx, hx, rfl⟩
          · dsimp only [jst]
            refine j_istore (i := 4) (t := 38) (lv' := [(0, _), (1, _), (2, _), (3, _), (4, _)]) C d_M_known_36 (by decide) (by decide) rfl rfl ?_
            refine j_iload (t := 40) C d_M_known_38 rfl rfl ?_
            refine j_iconst (x := (-1)) (t := 41) C d_M_known_40 rfl rfl ?_
            refine j_icmp_ne (tgt := 51) (t := 44) C d_M_known_41 (by decide) rfl (fun h41 => absurd h41 (fun z => z rfl)) (fun h41 => ?_)
            refine j_iload_n (i := 3) (t := 45) C d_M_known_44 rfl rfl rfl ?_
            refine j_iload_n (i := 2) (t := 46) C d_M_known_45 rfl rfl rfl ?_
            refine j_icmp_ge (tgt := 51) (t := 49) C d_M_known_46 (by decide) rfl (fun h46 => ?_) (fun h46 => ?_)
            · refine j_aload_n (i := 0) (t := 52) C d_M_known_51 rfl rfl (by first | exact jrv_r | exact jrv_n | exact jrv_f) rfl ?_
              refine j_get (t := 55) C fl_M_45 d_M_known_52 M2.1 rfl rfl ?_
              refine j_iload_n (i := 1) (t := 56) C d_M_known_55 rfl rfl rfl ?_
              refine j_iconst (x := 1) (t := 57) C d_M_known_56 rfl rfl ?_
              refine j_st_kn (i := c) (t := 58) C d_M_known_57 M2 (by rfl) (by omega) rfl rfl (fun w57 M57 => ?_)
              refine j_aload_n (i := 0) (t := 59) C d_M_known_58 rfl rfl (by first | exact jrv_r | exact jrv_n | exact jrv_f) rfl ?_
              refine j_get (t := 62) C fl_M_49 d_M_known_59 M57.1 rfl rfl ?_
              refine j_iload_n (i := 1) (t := 63) C d_M_known_62 rfl rfl rfl ?_
              refine j_iload (t := 65) C d_M_known_63 rfl rfl ?_
              refine j_iconst (x := (-1)) (t := 66) C d_M_known_65 rfl rfl ?_
              refine j_icmp_eq (tgt := 73) (t := 69) C d_M_known_66 (by decide) rfl (fun h66 => ?_) (fun h66 => absurd h66 (fun z => z rfl))
              refine j_iconst (x := 0) (t := 74) C d_M_known_73 rfl rfl ?_
              refine j_st_hm (i := c) (t := 75) C d_M_known_74 M57 (by rfl) (by omega) rfl rfl (fun w74 M74 => ?_)
              refine j_aload_n (i := 0) (t := 76) C d_M_known_75 rfl rfl (by first | exact jrv_r | exact jrv_n | exact jrv_f) rfl ?_
              refine j_get (t := 79) C fl_M_36 d_M_known_76 M74.1 rfl rfl ?_
              refine j_iload_n (i := 1) (t := 80) C d_M_known_79 rfl rfl rfl ?_
              refine j_iload_n (i := 2) (t := 81) C d_M_known_80 rfl rfl rfl ?_
              refine j_st_rw (i := c) (t := 82) C d_M_known_81 M74 (by rfl) (by omega) rfl (fun w81 M81 => ?_)
              refine j_aload_n (i := 0) (t := 83) C d_M_known_82 rfl rfl (by first | exact jrv_r | exact jrv_n | exact jrv_f) rfl ?_
              refine j_get (t := 86) C fl_M_39 d_M_known_83 M81.1 rfl rfl ?_
              refine j_iload_n (i := 1) (t := 87) C d_M_known_86 rfl rfl rfl ?_
              refine j_iload_n (i := 3) (t := 88) C d_M_known_87 rfl rfl rfl ?_
              refine j_st_ms (i := c) (t := 89) C d_M_known_88 M81 (by rfl) (by omega) rfl (fun w88 M88 => ?_)
              refine j_aload_n (i := 0) (t := 90) C d_M_known_89 rfl rfl (by first | exact jrv_r | exact jrv_n | exact jrv_f) rfl ?_
              refine j_get (t := 93) C fl_M_42 d_M_known_90 M88.1 rfl rfl ?_
              refine j_iload_n (i := 1) (t := 94) C d_M_known_93 rfl rfl rfl ?_
              refine j_iconst (x := 0) (t := 95) C d_M_known_94 rfl rfl ?_
              refine j_st_wd (i := c) (t := 96) C d_M_known_95 M88 (by rfl) (by omega) rfl (fun w95 M95 => ?_)
              refine j_iload (t := 98) C d_M_known_96 rfl rfl ?_
              refine j_iconst (x := (-1)) (t := 99) C d_M_known_98 rfl rfl ?_
              refine j_icmp_ne (tgt := 104) (t := 102) C d_M_known_99 (by decide) rfl (fun h99 => absurd h99 (fun z => z rfl)) (fun h99 => ?_)
              refine j_iconst (x := 1) (t := 103) C d_M_known_102 rfl rfl ?_
              exact j_iret C d_M_known_103 (by first | rfl | exact nar_b) (by
                    rw [known_t hcx ⟨⟨h14, Int32.not_lt.mp h19, h25⟩, fun z => Int32.not_lt.mpr h46 z.2⟩]
                    exact ⟨rfl, RepM.of M95 (relM_learn0 hR hW hc hno)⟩) (by omega) (by omega)
            · refine j_iconst (x := 0) (t := 50) C d_M_known_49 rfl rfl ?_
              exact j_iret C d_M_known_50 (by first | rfl | exact nar_b) (by
                    rw [known_f hcx (fun z => z.2 ⟨hno, Int32.not_le.mp h46⟩)]
                    exact ⟨rfl, RepM.of M2 hR⟩) (by omega) (by omega)
          · dsimp only [jst]
            refine j_istore (i := 4) (t := 38) (lv' := [(0, _), (1, _), (2, _), (3, _), (4, _)]) C d_M_known_36 (by decide) (by decide) rfl rfl ?_
            refine j_iload (t := 40) C d_M_known_38 rfl rfl ?_
            refine j_iconst (x := (-1)) (t := 41) C d_M_known_40 rfl rfl ?_
            refine j_icmp_ne (tgt := 51) (t := 44) C d_M_known_41 (by decide) rfl (fun h41 => ?_) (fun h41 => absurd h41 (nI_m1 (by omega)))
            refine j_aload_n (i := 0) (t := 52) C d_M_known_51 rfl rfl (by first | exact jrv_r | exact jrv_n | exact jrv_f) rfl ?_
            refine j_get (t := 55) C fl_M_45 d_M_known_52 M2.1 rfl rfl ?_
            refine j_iload_n (i := 1) (t := 56) C d_M_known_55 rfl rfl rfl ?_
            refine j_iconst (x := 1) (t := 57) C d_M_known_56 rfl rfl ?_
            refine j_st_kn (i := c) (t := 58) C d_M_known_57 M2 (by rfl) (by omega) rfl rfl (fun w57 M57 => ?_)
            refine j_aload_n (i := 0) (t := 59) C d_M_known_58 rfl rfl (by first | exact jrv_r | exact jrv_n | exact jrv_f) rfl ?_
            refine j_get (t := 62) C fl_M_49 d_M_known_59 M57.1 rfl rfl ?_
            refine j_iload_n (i := 1) (t := 63) C d_M_known_62 rfl rfl rfl ?_
            refine j_iload (t := 65) C d_M_known_63 rfl rfl ?_
            refine j_iconst (x := (-1)) (t := 66) C d_M_known_65 rfl rfl ?_
            refine j_icmp_eq (tgt := 73) (t := 69) C d_M_known_66 (by decide) rfl (fun h66 => absurd h66 (nI_m1 (by omega))) (fun h66 => ?_)
            refine j_iconst (x := 1) (t := 70) C d_M_known_69 rfl rfl ?_
            refine j_goto (tgt := 74) C d_M_known_70 (by decide) ?_
            refine j_st_hm (i := c) (t := 75) C d_M_known_74 M57 (by rfl) (by omega) rfl rfl (fun w74 M74 => ?_)
            refine j_aload_n (i := 0) (t := 76) C d_M_known_75 rfl rfl (by first | exact jrv_r | exact jrv_n | exact jrv_f) rfl ?_
            refine j_get (t := 79) C fl_M_36 d_M_known_76 M74.1 rfl rfl ?_
            refine j_iload_n (i := 1) (t := 80) C d_M_known_79 rfl rfl rfl ?_
            refine j_iload_n (i := 2) (t := 81) C d_M_known_80 rfl rfl rfl ?_
            refine j_st_rw (i := c) (t := 82) C d_M_known_81 M74 (by rfl) (by omega) rfl (fun w81 M81 => ?_)
            refine j_aload_n (i := 0) (t := 83) C d_M_known_82 rfl rfl (by first | exact jrv_r | exact jrv_n | exact jrv_f) rfl ?_
            refine j_get (t := 86) C fl_M_39 d_M_known_83 M81.1 rfl rfl ?_
            refine j_iload_n (i := 1) (t := 87) C d_M_known_86 rfl rfl rfl ?_
            refine j_iload_n (i := 3) (t := 88) C d_M_known_87 rfl rfl rfl ?_
            refine j_st_ms (i := c) (t := 89) C d_M_known_88 M81 (by rfl) (by omega) rfl (fun w88 M88 => ?_)
            refine j_aload_n (i := 0) (t := 90) C d_M_known_89 rfl rfl (by first | exact jrv_r | exact jrv_n | exact jrv_f) rfl ?_
            refine j_get (t := 93) C fl_M_42 d_M_known_90 M88.1 rfl rfl ?_
            refine j_iload_n (i := 1) (t := 94) C d_M_known_93 rfl rfl rfl ?_
            refine j_iconst (x := 0) (t := 95) C d_M_known_94 rfl rfl ?_
            refine j_st_wd (i := c) (t := 96) C d_M_known_95 M88 (by rfl) (by omega) rfl (fun w95 M95 => ?_)
            obtain ⟨K1, z1, k1, -, l1, f1⟩ := row_sz hR hW hc hr1 fx
            refine j_iload (t := 98) C d_M_known_96 rfl rfl ?_
            refine j_iconst (x := (-1)) (t := 99) C d_M_known_98 rfl rfl ?_
            refine j_icmp_ne (tgt := 104) (t := 102) C d_M_known_99 (by decide) rfl (fun h99 => ?_) (fun h99 => absurd h99 (nI_m1 (by omega)))
            refine j_aload_n (i := 0) (t := 105) C d_M_known_104 rfl rfl (by first | exact jrv_r | exact jrv_n | exact jrv_f) rfl ?_
            refine j_sipush (x := nI 16000) (t := 108) C d_M_known_105 rfl rfl ?_
            refine j_iload_n (i := 1) (t := 109) C d_M_known_108 rfl rfl rfl ?_
            refine j_iadd (t := 110) C d_M_known_109 rfl ?_
            refine j_sipush (x := nI 1000) (t := 113) C d_M_known_110 rfl rfl ?_
            refine j_iload_n (i := 1) (t := 114) C d_M_known_113 rfl rfl rfl ?_
            refine j_imul (t := 115) C d_M_known_114 rfl ?_
            refine j_iload (t := 117) C d_M_known_115 rfl rfl ?_
            refine j_iadd (t := 118) C d_M_known_117 rfl ?_
            refine j_ldc (x := nI 128000) (t := 120) C d_M_known_118 ct_M_152 rfl ?_
            refine j_sipush (x := nI 512) (t := 123) C d_M_known_120 rfl rfl ?_
            refine j_iload_n (i := 1) (t := 124) C d_M_known_123 rfl rfl rfl ?_
            refine j_imul (t := 125) C d_M_known_124 rfl ?_
            refine j_iadd (t := 126) C d_M_known_125 rfl ?_
            simp only [nI_mul, nI_add]
            refine j_callV (As := [_, _, _]) (t := 129) C (c_M_copy _ o q (mlearn n c 1 a b) (16000 + c) (1000 * c + r1) K1 (8000 * c + tsum (g_rf s c) r1) (128000 + 512 * c)) d_M_known_126 jb_M_copy ml_M_153 jv_M_copy M95.1 rfl rfl rfl (Nat.le_of_ble_eq_true rfl) (by decide) (by omega) (by omega) (⟨rfl, M95, ⟨by omega, by omega, by omega⟩, ⟨z1, by omega, by omega⟩, fun z => by obtain ⟨f2, f3⟩ := f1 z; exact ⟨f2, by omega, by omega⟩⟩) rfl (fun r126 w126 p126 => ?_)
            obtain ⟨rfl, b1, M126, p1, p2⟩ := p126
            dsimp only [jst]
            refine j_aload_n (i := 0) (t := 130) C d_M_known_129 rfl rfl (by first | exact jrv_r | exact jrv_n | exact jrv_f) rfl ?_
            refine j_sipush (x := nI 16016) (t := 133) C d_M_known_130 rfl rfl ?_
            refine j_iload_n (i := 1) (t := 134) C d_M_known_133 rfl rfl rfl ?_
            refine j_iadd (t := 135) C d_M_known_134 rfl ?_
            refine j_sipush (x := nI 1000) (t := 138) C d_M_known_135 rfl rfl ?_
            refine j_iload_n (i := 1) (t := 139) C d_M_known_138 rfl rfl rfl ?_
            refine j_imul (t := 140) C d_M_known_139 rfl ?_
            refine j_aload_n (i := 0) (t := 141) C d_M_known_140 rfl rfl (by first | exact jrv_r | exact jrv_n | exact jrv_f) rfl ?_
            refine j_iload_n (i := 1) (t := 142) C d_M_known_141 rfl rfl rfl ?_
            refine j_iconst (x := 1) (t := 143) C d_M_known_142 rfl rfl ?_
            have hL : rowsM s (mcopy (mlearn n c 1 a b) (16000 + c) (1000 * c + r1) K1 (128000 + 512 * c) b1) c := rowsM_keep hR hW hc rfl rfl (fun i hi => same3_copy (m := mlearn n c 1 a b) (by omega)) (fun j hj => p2 j (by omega)) rfl
            refine j_callV (As := [_, _]) (t := 146) C (c_M_mostR _ o q (mcopy (mlearn n c 1 a b) (16000 + c) (1000 * c + r1) K1 (128000 + 512 * c) b1) s c) d_M_known_143 jb_M_most ml_M_149 jv_M_most M126.1 rfl rfl rfl (Nat.le_of_ble_eq_true rfl) (by decide) (by omega) (by omega) (⟨⟨rfl, M126, hL, hW⟩, hc⟩) rfl (fun r143 w143 p143 => ?_)
            obtain ⟨rfl, p143b⟩ := p143
            rcases p143b with ⟨hno, -⟩ | ⟨r2, y1, hr2, fy, hy, rfl⟩
            · exact absurd hno (mx_some hx)
            dsimp only [jst]
            obtain ⟨K2, z2, k2, -, l2, f2⟩ := row_sz hR hW hc hr2 fy
            refine j_iadd (t := 147) C d_M_known_146 rfl ?_
            refine j_ldc (x := nI 128000) (t := 149) C d_M_known_147 ct_M_152 rfl ?_
            refine j_sipush (x := nI 512) (t := 152) C d_M_known_149 rfl rfl ?_
            refine j_iload_n (i := 1) (t := 153) C d_M_known_152 rfl rfl rfl ?_
            refine j_imul (t := 154) C d_M_known_153 rfl ?_
            refine j_iadd (t := 155) C d_M_known_154 rfl ?_
            refine j_sipush (x := nI 256) (t := 158) C d_M_known_155 rfl rfl ?_
            refine j_iadd (t := 159) C d_M_known_158 rfl ?_
            simp only [nI_mul, nI_add]
            refine j_callV (As := [_, _, _]) (t := 162) C (c_M_copy _ o q (mcopy (mlearn n c 1 a b) (16000 + c) (1000 * c + r1) K1 (128000 + 512 * c) b1) (16016 + c) (1000 * c + r2) K2 (8000 * c + tsum (g_rf s c) r2) (128000 + 512 * c + 256)) d_M_known_159 jb_M_copy ml_M_153 jv_M_copy M126.1 rfl rfl rfl (Nat.le_of_ble_eq_true rfl) (by decide) (by omega) (by omega) (⟨rfl, M126, ⟨by omega, by omega, by omega⟩, ⟨(upd_ne (by omega)).trans z2, by omega, by omega⟩, fun z => by obtain ⟨f3, f4⟩ := f2 z; exact ⟨(upd_ne (by omega)).trans f3, by omega, by omega⟩⟩) rfl (fun r159 w159 p159 => ?_)
            obtain ⟨rfl, b2, M159, q1, q2⟩ := p159
            dsimp only [jst]
            refine j_iconst (x := 1) (t := 163) C d_M_known_162 rfl rfl ?_
            exact j_iret C d_M_known_163 (by first | rfl | exact nar_b) (by
                  rw [known_t hcx ⟨⟨h14, Int32.not_lt.mp h19, h25⟩, fun z => by rw [hx] at z; cases z.1⟩]
                  exact ⟨rfl, RepM.of M159 (relM_learn1 hR hW hc hx hy hr1 hr2 fx fy k1 k2 l1 l2 p1 p2 q1 q2)⟩) (by omega) (by omega)
        · refine j_iconst (x := 0) (t := 29) C d_M_known_28 rfl rfl ?_
          exact j_iret C d_M_known_29 (by first | rfl | exact nar_b) (by
                first
                | (rw [known_n (ci_none h10)]; exact ⟨rfl, RepM.of M2 hR⟩)
                | (rw [known_f hcx (fun z => z.1.1 h14)]; exact ⟨rfl, RepM.of M2 hR⟩)
                | (rw [known_f hcx (fun z => Int32.not_lt.mpr z.1.2.1 h19)]; exact ⟨rfl, RepM.of M2 hR⟩)
                | (rw [known_f hcx (fun z => h25 z.1.2.2)]; exact ⟨rfl, RepM.of M2 hR⟩)) (by omega) (by omega)
