set_option maxHeartbeats 4000000 in
set_option maxRecDepth 100000 in
/-- addText -/
theorem c_M_addText (l : Launch) (o : Nat) (s : jS) (x n1 : Int32) : MC l y_M_addText b_M_addText 3 ((some .boolean)) 1 0 0
    (fun G w av => av = [.ref o, .int x, .int n1] ∧ RepM G w o s ∧ WF s)
    (fun G w av r w' => r = some (.int (sp_addText s x n1).1) ∧ RepM G w' o (sp_addText s x n1).2) := by
  refine MC.of 99 (by decide) ?_
  intro X w av hl C hnm hp
  obtain ⟨rfl, ⟨q, m, hM, hR⟩, hW⟩ := hp
  obtain ⟨wtn, wtp, wcc, wln, wsn, wzn, wcol, wlit, wst, wzt⟩ := id hW
  refine ⟨[(0, _), (1, _), (2, _)], rfl, Nat.le_of_ble_eq_true rfl, rfl, ?_⟩
  refine j_aload_n (i := 0) (t := 1) C d_M_addText_0 rfl rfl (by first | exact jrv_r | exact jrv_n | exact jrv_f) rfl ?_
  refine j_iconst (x := 0) (t := 2) C d_M_addText_1 rfl rfl ?_
  refine j_pt_cd (t := 5) C fp_M_79 d_M_addText_2 hM rfl (fun w2 M2 => ?_)
  obtain ⟨n, M2, hR⟩ : ∃ n : jM, MH (xG X) w2 o q n ∧ relM s n := ⟨_, M2, relM_cd hR⟩
  obtain ⟨⟨r_tn, r_tp⟩, ⟨r_cc, r_ln, r_sn, r_zn⟩, r_col, r_new, r_sz, r_lit, r_st, r_zt⟩ := id hR
  refine j_iload_n (i := 2) (t := 6) C d_M_addText_5 rfl rfl rfl ?_
  refine j_if_lt (tgt := 17) (t := 9) C d_M_addText_6 (by decide) rfl (fun h6 => ?_) (fun h6 => ?_)
  · refine j_iconst (x := 0) (t := 18) C d_M_addText_17 rfl rfl ?_
    exact j_iret C d_M_addText_18 (by first | rfl | exact nar_b) (by
          have hn : ¬ onT s n1 = true := fun z => by
            first
            | exact onT_1 z h6
            | exact h14 (onT_2 z)
          rw [addText_0 hn]
          exact ⟨rfl, RepM.of M2 hR⟩) (by omega) (by omega)
  · refine j_iload_n (i := 2) (t := 10) C d_M_addText_9 rfl rfl rfl ?_
    refine j_aload_n (i := 0) (t := 11) C d_M_addText_10 rfl rfl (by first | exact jrv_r | exact jrv_n | exact jrv_f) rfl ?_
    refine j_get (t := 14) C fl_M_83 d_M_addText_11 M2.1 rfl rfl ?_
    rw [r_tn]
    refine j_icmp_le (tgt := 19) (t := 17) C d_M_addText_14 (by decide) rfl (fun h14 => ?_) (fun h14 => ?_)
    · obtain ⟨A, hA, rfl⟩ := nI_of h6
      have hAt : A ≤ g_tn s := (nI_leI hA (by omega)).mp h14
      have hon : onT s (nI A) = true := (onT_iff hA wtn).mpr hAt
      refine j_aload_n (i := 0) (t := 20) C d_M_addText_19 rfl rfl (by first | exact jrv_r | exact jrv_n | exact jrv_f) rfl ?_
      refine j_iconst (x := 0) (t := 21) C d_M_addText_20 rfl rfl ?_
      refine j_pt_tn (t := 24) C fp_M_83 d_M_addText_21 M2 rfl (fun w21 M21 => ?_)
      obtain ⟨n2, M21, hR2, htap⟩ : ∃ n2 : jM, MH (xG X) w21 o q n2 ∧ relM (s_tn s 0) n2 ∧ mg_tape n2 = mg_tape n := ⟨_, M21, relM_tn0 hR, rfl⟩
      obtain ⟨t, ht⟩ : ∃ t, t = s_tn s 0 := ⟨_, rfl⟩
      rw [← ht] at hR2
      have hWt : WF t := by rw [ht]; exact WF_tn0 hW
      have ecc : g_cc t = g_cc s := by rw [ht]
      have eln : g_ln t = g_ln s := by rw [ht]
      have cc2 : mg_cc n2 = nI (g_cc s) := by rw [← ecc]; exact hR2.2.1.1
      refine j_aload_n (i := 0) (t := 25) C d_M_addText_24 rfl rfl (by first | exact jrv_r | exact jrv_n | exact jrv_f) rfl ?_
      refine j_iload_n (i := 1) (t := 26) C d_M_addText_25 rfl rfl rfl ?_
      refine j_callV (As := [_]) (t := 29) C (c_M_isColumn _ o q n2 s x) d_M_addText_26 jb_M_isColumn ml_M_89 jv_M_isColumn M21.1 rfl rfl rfl (Nat.le_of_ble_eq_true rfl) (by decide) (by omega) (by omega) (⟨rfl, M21, cc2⟩) rfl (fun r26 w26 p26 => ?_)
      obtain ⟨rfl, rfl⟩ := p26
      dsimp only [jst]
      refine j_if_eq (tgt := 75) (t := 32) C d_M_addText_29 (by decide) rfl (fun h29 => ?_) (fun h29 => ?_)
      · refine j_iconst (x := 0) (t := 76) C d_M_addText_75 rfl rfl ?_
        exact j_iret C d_M_addText_76 (by first | rfl | exact nar_b) (by
              first
              | (rw [addText_n hon (ci_none h29), ← ht]; exact ⟨rfl, RepM.of M21 hR2⟩)
              | (rw [addText_f hon hcx (fun z => h39 (htx.mp z).1), ← ht]; exact ⟨rfl, RepM.of M21 hR2⟩)
              | (rw [addText_f hon hcx (fun z => absurd ((nI_ltI (by omega) hA).mp h46) (by have := (htx.mp z).2.1; omega)), ← ht]; exact ⟨rfl, RepM.of M21 hR2⟩)
              | (rw [addText_f hon hcx (fun z => absurd ((nI_eq (by omega) (by omega)).mp h58) (by have := (htx.mp z).2.2.1; omega)), ← ht]; exact ⟨rfl, RepM.of M21 hR2⟩)
              | (rw [addText_f hon hcx (fun z => h72 (nI_le (htx.mp z).2.2.2 (by omega))), ← ht]; exact ⟨rfl, RepM.of M21 hR2⟩)) (by omega) (by omega)
      · obtain ⟨c, hcx⟩ := ci_some h29
        obtain ⟨hc, rfl⟩ := cix_some wcc hcx
        have hct : c < g_cc t := by rw [ecc]; exact hc
        obtain ⟨hty, hcnt, hus, -⟩ := hR2.2.2.1 c hct
        obtain ⟨-, hrc, hts, -⟩ := hWt.2.2.2.2.2.2.1 c hct
        have htx := txOK_iff (s := t) (c := c) (A := A) hrc hts hA
        have etx : txOK t c (nI A) = txOK s c (nI A) := by rw [ht]; rfl
        rw [etx] at htx
        refine j_aload_n (i := 0) (t := 33) C d_M_addText_32 rfl rfl (by first | exact jrv_r | exact jrv_n | exact jrv_f) rfl ?_
        refine j_get (t := 36) C fl_M_27 d_M_addText_33 M21.1 rfl rfl ?_
        refine j_iload_n (i := 1) (t := 37) C d_M_addText_36 rfl rfl rfl ?_
        refine j_ld_ty (i := c) (t := 38) C d_M_addText_37 M21 (by rfl) (by omega) (hty) rfl ?_
        refine j_iconst (x := 2) (t := 39) C d_M_addText_38 rfl rfl ?_
        refine j_icmp_ne (tgt := 75) (t := 42) C d_M_addText_39 (by decide) rfl (fun h39 => ?_) (fun h39 => ?_)
        · refine j_iconst (x := 0) (t := 76) C d_M_addText_75 rfl rfl ?_
          exact j_iret C d_M_addText_76 (by first | rfl | exact nar_b) (by
                first
                | (rw [addText_n hon (ci_none h29), ← ht]; exact ⟨rfl, RepM.of M21 hR2⟩)
                | (rw [addText_f hon hcx (fun z => h39 (htx.mp z).1), ← ht]; exact ⟨rfl, RepM.of M21 hR2⟩)
                | (rw [addText_f hon hcx (fun z => absurd ((nI_ltI (by omega) hA).mp h46) (by have := (htx.mp z).2.1; omega)), ← ht]; exact ⟨rfl, RepM.of M21 hR2⟩)
                | (rw [addText_f hon hcx (fun z => absurd ((nI_eq (by omega) (by omega)).mp h58) (by have := (htx.mp z).2.2.1; omega)), ← ht]; exact ⟨rfl, RepM.of M21 hR2⟩)
                | (rw [addText_f hon hcx (fun z => h72 (nI_le (htx.mp z).2.2.2 (by omega))), ← ht]; exact ⟨rfl, RepM.of M21 hR2⟩)) (by omega) (by omega)
        · refine j_iload_n (i := 2) (t := 43) C d_M_addText_42 rfl rfl rfl ?_
          refine j_sipush (x := nI 255) (t := 46) C d_M_addText_43 rfl rfl ?_
          refine j_icmp_gt (tgt := 75) (t := 49) C d_M_addText_46 (by decide) rfl (fun h46 => ?_) (fun h46 => ?_)
          · refine j_iconst (x := 0) (t := 76) C d_M_addText_75 rfl rfl ?_
            exact j_iret C d_M_addText_76 (by first | rfl | exact nar_b) (by
                  first
                  | (rw [addText_n hon (ci_none h29), ← ht]; exact ⟨rfl, RepM.of M21 hR2⟩)
                  | (rw [addText_f hon hcx (fun z => h39 (htx.mp z).1), ← ht]; exact ⟨rfl, RepM.of M21 hR2⟩)
                  | (rw [addText_f hon hcx (fun z => absurd ((nI_ltI (by omega) hA).mp h46) (by have := (htx.mp z).2.1; omega)), ← ht]; exact ⟨rfl, RepM.of M21 hR2⟩)
                  | (rw [addText_f hon hcx (fun z => absurd ((nI_eq (by omega) (by omega)).mp h58) (by have := (htx.mp z).2.2.1; omega)), ← ht]; exact ⟨rfl, RepM.of M21 hR2⟩)
                  | (rw [addText_f hon hcx (fun z => h72 (nI_le (htx.mp z).2.2.2 (by omega))), ← ht]; exact ⟨rfl, RepM.of M21 hR2⟩)) (by omega) (by omega)
          · refine j_aload_n (i := 0) (t := 50) C d_M_addText_49 rfl rfl (by first | exact jrv_r | exact jrv_n | exact jrv_f) rfl ?_
            refine j_get (t := 53) C fl_M_30 d_M_addText_50 M21.1 rfl rfl ?_
            refine j_iload_n (i := 1) (t := 54) C d_M_addText_53 rfl rfl rfl ?_
            refine j_ld_cnt (i := c) (t := 55) C d_M_addText_54 M21 (by rfl) (by omega) (hcnt) rfl ?_
            refine j_sipush (x := nI 1000) (t := 58) C d_M_addText_55 rfl rfl ?_
            refine j_icmp_eq (tgt := 75) (t := 61) C d_M_addText_58 (by decide) rfl (fun h58 => ?_) (fun h58 => ?_)
            · refine j_iconst (x := 0) (t := 76) C d_M_addText_75 rfl rfl ?_
              exact j_iret C d_M_addText_76 (by first | rfl | exact nar_b) (by
                    first
                    | (rw [addText_n hon (ci_none h29), ← ht]; exact ⟨rfl, RepM.of M21 hR2⟩)
                    | (rw [addText_f hon hcx (fun z => h39 (htx.mp z).1), ← ht]; exact ⟨rfl, RepM.of M21 hR2⟩)
                    | (rw [addText_f hon hcx (fun z => absurd ((nI_ltI (by omega) hA).mp h46) (by have := (htx.mp z).2.1; omega)), ← ht]; exact ⟨rfl, RepM.of M21 hR2⟩)
                    | (rw [addText_f hon hcx (fun z => absurd ((nI_eq (by omega) (by omega)).mp h58) (by have := (htx.mp z).2.2.1; omega)), ← ht]; exact ⟨rfl, RepM.of M21 hR2⟩)
                    | (rw [addText_f hon hcx (fun z => h72 (nI_le (htx.mp z).2.2.2 (by omega))), ← ht]; exact ⟨rfl, RepM.of M21 hR2⟩)) (by omega) (by omega)
            · refine j_aload_n (i := 0) (t := 62) C d_M_addText_61 rfl rfl (by first | exact jrv_r | exact jrv_n | exact jrv_f) rfl ?_
              refine j_get (t := 65) C fl_M_33 d_M_addText_62 M21.1 rfl rfl ?_
              refine j_iload_n (i := 1) (t := 66) C d_M_addText_65 rfl rfl rfl ?_
              refine j_ld_us (i := c) (t := 67) C d_M_addText_66 M21 (by rfl) (by omega) (hus) rfl ?_
              refine j_iload_n (i := 2) (t := 68) C d_M_addText_67 rfl rfl rfl ?_
              refine j_iadd (t := 69) C d_M_addText_68 rfl ?_
              refine j_sipush (x := nI 8000) (t := 72) C d_M_addText_69 rfl rfl ?_
              rw [nI_add]
              refine j_icmp_le (tgt := 77) (t := 75) C d_M_addText_72 (by decide) rfl (fun h72 => ?_) (fun h72 => ?_)
              · have k2 : g_ty t c = 2 := by simpa using h39
                have k3 : A ≤ 255 := fdg h46 (by omega) hA
                have k4 : g_rc t c < 1000 := fne h58 hrc
                have k5 := fdl h72 (by omega) (by omega)
                refine j_aload_n (i := 0) (t := 78) C d_M_addText_77 rfl rfl (by first | exact jrv_r | exact jrv_n | exact jrv_f) rfl ?_
                refine j_sipush (x := nI 1000) (t := 81) C d_M_addText_78 rfl rfl ?_
                refine j_iload_n (i := 1) (t := 82) C d_M_addText_81 rfl rfl rfl ?_
                refine j_imul (t := 83) C d_M_addText_82 rfl ?_
                refine j_aload_n (i := 0) (t := 84) C d_M_addText_83 rfl rfl (by first | exact jrv_r | exact jrv_n | exact jrv_f) rfl ?_
                refine j_get (t := 87) C fl_M_30 d_M_addText_84 M21.1 rfl rfl ?_
                refine j_iload_n (i := 1) (t := 88) C d_M_addText_87 rfl rfl rfl ?_
                refine j_ld_cnt (i := c) (t := 89) C d_M_addText_88 M21 (by rfl) (by omega) (hcnt) rfl ?_
                refine j_iadd (t := 90) C d_M_addText_89 rfl ?_
                refine j_iload_n (i := 2) (t := 91) C d_M_addText_90 rfl rfl rfl ?_
                refine j_sipush (x := nI 8000) (t := 94) C d_M_addText_91 rfl rfl ?_
                refine j_iload_n (i := 1) (t := 95) C d_M_addText_94 rfl rfl rfl ?_
                refine j_imul (t := 96) C d_M_addText_95 rfl ?_
                refine j_aload_n (i := 0) (t := 97) C d_M_addText_96 rfl rfl (by first | exact jrv_r | exact jrv_n | exact jrv_f) rfl ?_
                refine j_get (t := 100) C fl_M_33 d_M_addText_97 M21.1 rfl rfl ?_
                refine j_iload_n (i := 1) (t := 101) C d_M_addText_100 rfl rfl rfl ?_
                refine j_ld_us (i := c) (t := 102) C d_M_addText_101 M21 (by rfl) (by omega) (hus) rfl ?_
                refine j_iadd (t := 103) C d_M_addText_102 rfl ?_
                rw [nI_mul, nI_mul, nI_add, nI_add]
                refine j_callV (As := [_, _, _]) (t := 106) C (c_M_fromTape _ o q n2 (1000 * c + g_rc t c) A (8000 * c + tsum (g_rf t c) (g_rc t c))) d_M_addText_103 jb_M_fromTape ml_M_97 jv_M_fromTape M21.1 rfl rfl rfl (Nat.le_of_ble_eq_true rfl) (by decide) (by omega) (by omega) (⟨rfl, M21, by omega, by omega, by omega⟩) rfl (fun r103 w103 p103 => ?_)
                obtain ⟨rfl, bb, M103, hb1, hb2⟩ := p103
                dsimp only [jst]
                refine j_aload_n (i := 0) (t := 107) C d_M_addText_106 rfl rfl (by first | exact jrv_r | exact jrv_n | exact jrv_f) rfl ?_
                refine j_get (t := 110) C fl_M_52 d_M_addText_107 M103.1 rfl rfl ?_
                refine j_sipush (x := nI 1000) (t := 113) C d_M_addText_110 rfl rfl ?_
                refine j_iload_n (i := 1) (t := 114) C d_M_addText_113 rfl rfl rfl ?_
                refine j_imul (t := 115) C d_M_addText_114 rfl ?_
                refine j_aload_n (i := 0) (t := 116) C d_M_addText_115 rfl rfl (by first | exact jrv_r | exact jrv_n | exact jrv_f) rfl ?_
                refine j_get (t := 119) C fl_M_30 d_M_addText_116 M103.1 rfl rfl ?_
                refine j_iload_n (i := 1) (t := 120) C d_M_addText_119 rfl rfl rfl ?_
                refine j_ld_cnt (i := c) (t := 121) C d_M_addText_120 M103 (by rfl) (by omega) (hcnt) rfl ?_
                refine j_iadd (t := 122) C d_M_addText_121 rfl ?_
                refine j_iconst (x := 1) (t := 123) C d_M_addText_122 rfl rfl ?_
                refine j_st_has (i := 1000 * c + g_rc t c) (t := 124) C d_M_addText_123 M103 (by rw [nI_mul, nI_add]) (by omega) rfl rfl (fun w123 M123 => ?_)
                refine j_aload_n (i := 0) (t := 125) C d_M_addText_124 rfl rfl (by first | exact jrv_r | exact jrv_n | exact jrv_f) rfl ?_
                refine j_get (t := 128) C fl_M_30 d_M_addText_125 M123.1 rfl rfl ?_
                refine j_iload_n (i := 1) (t := 129) C d_M_addText_128 rfl rfl rfl ?_
                refine j_dup2 (t := 130) C d_M_addText_129 rfl rfl rfl ?_
                refine j_ld_cnt (i := c) (t := 131) C d_M_addText_130 M123 (by rfl) (by omega) (hcnt) rfl ?_
                refine j_iconst (x := 1) (t := 132) C d_M_addText_131 rfl rfl ?_
                refine j_iadd (t := 133) C d_M_addText_132 rfl ?_
                rw [nI_1]
                refine j_st_cnt (i := c) (t := 134) C d_M_addText_133 M123 (by rfl) (by omega) rfl (fun w133 M133 => ?_)
                refine j_aload_n (i := 0) (t := 135) C d_M_addText_134 rfl rfl (by first | exact jrv_r | exact jrv_n | exact jrv_f) rfl ?_
                refine j_get (t := 138) C fl_M_33 d_M_addText_135 M133.1 rfl rfl ?_
                refine j_iload_n (i := 1) (t := 139) C d_M_addText_138 rfl rfl rfl ?_
                refine j_dup2 (t := 140) C d_M_addText_139 rfl rfl rfl ?_
                refine j_ld_us (i := c) (t := 141) C d_M_addText_140 M133 (by rfl) (by omega) (hus) rfl ?_
                refine j_iload_n (i := 2) (t := 142) C d_M_addText_141 rfl rfl rfl ?_
                refine j_iadd (t := 143) C d_M_addText_142 rfl ?_
                rw [nI_add]
                refine j_st_us (i := c) (t := 144) C d_M_addText_143 M133 (by rfl) (by omega) rfl (fun w143 M143 => ?_)
                refine j_iconst (x := 1) (t := 145) C d_M_addText_144 rfl rfl ?_
                exact j_iret C d_M_addText_145 (by first | rfl | exact nar_b) (by
                      rw [addText_t hon hcx (htx.mpr ⟨k2, k3, k4, k5⟩), nI_clamp hA, ← ht]
                      exact ⟨rfl, RepM.of M143 (relM_text1 hR2 hWt hct k4 k2 tptx_len k5 (tp_at htap hb1 hAt r_tp) hb2)⟩) (by omega) (by omega)
              · refine j_iconst (x := 0) (t := 76) C d_M_addText_75 rfl rfl ?_
                exact j_iret C d_M_addText_76 (by first | rfl | exact nar_b) (by
                      first
                      | (rw [addText_n hon (ci_none h29), ← ht]; exact ⟨rfl, RepM.of M21 hR2⟩)
                      | (rw [addText_f hon hcx (fun z => h39 (htx.mp z).1), ← ht]; exact ⟨rfl, RepM.of M21 hR2⟩)
                      | (rw [addText_f hon hcx (fun z => absurd ((nI_ltI (by omega) hA).mp h46) (by have := (htx.mp z).2.1; omega)), ← ht]; exact ⟨rfl, RepM.of M21 hR2⟩)
                      | (rw [addText_f hon hcx (fun z => absurd ((nI_eq (by omega) (by omega)).mp h58) (by have := (htx.mp z).2.2.1; omega)), ← ht]; exact ⟨rfl, RepM.of M21 hR2⟩)
                      | (rw [addText_f hon hcx (fun z => h72 (nI_le (htx.mp z).2.2.2 (by omega))), ← ht]; exact ⟨rfl, RepM.of M21 hR2⟩)) (by omega) (by omega)
    · refine j_iconst (x := 0) (t := 18) C d_M_addText_17 rfl rfl ?_
      exact j_iret C d_M_addText_18 (by first | rfl | exact nar_b) (by
            have hn : ¬ onT s n1 = true := fun z => by
              first
              | exact onT_1 z h6
              | exact h14 (onT_2 z)
            rw [addText_0 hn]
            exact ⟨rfl, RepM.of M2 hR⟩) (by omega) (by omega)

set_option maxHeartbeats 4000000 in
set_option maxRecDepth 100000 in
/-- literalText -/
theorem c_M_literalText (l : Launch) (o : Nat) (s : jS) (n1 : Int32) : MC l y_M_literalText b_M_literalText 2 ((some .int)) 1 0 0
    (fun G w av => av = [.ref o, .int n1] ∧ RepM G w o s ∧ WF s)
    (fun G w av r w' => r = some (.int (sp_litText s n1).1) ∧ RepM G w' o (sp_litText s n1).2) := by
  refine MC.of 99 (by decide) ?_
  intro X w av hl C hnm hp
  obtain ⟨rfl, ⟨q, m, hM, hR⟩, hW⟩ := hp
  obtain ⟨wtn, wtp, wcc, wln, wsn, wzn, wcol, wlit, wst, wzt⟩ := id hW
  refine ⟨[(0, _), (1, _)], rfl, Nat.le_of_ble_eq_true rfl, rfl, ?_⟩
  refine j_aload_n (i := 0) (t := 1) C d_M_literalText_0 rfl rfl (by first | exact jrv_r | exact jrv_n | exact jrv_f) rfl ?_
  refine j_iconst (x := 0) (t := 2) C d_M_literalText_1 rfl rfl ?_
  refine j_pt_cd (t := 5) C fp_M_79 d_M_literalText_2 hM rfl (fun w2 M2 => ?_)
  obtain ⟨n, M2, hR⟩ : ∃ n : jM, MH (xG X) w2 o q n ∧ relM s n := ⟨_, M2, relM_cd hR⟩
  obtain ⟨⟨r_tn, r_tp⟩, ⟨r_cc, r_ln, r_sn, r_zn⟩, r_col, r_new, r_sz, r_lit, r_st, r_zt⟩ := id hR
  refine j_iload_n (i := 1) (t := 6) C d_M_literalText_5 rfl rfl rfl ?_
  refine j_if_lt (tgt := 17) (t := 9) C d_M_literalText_6 (by decide) rfl (fun h6 => ?_) (fun h6 => ?_)
  · refine j_iconst (x := (-1)) (t := 18) C d_M_literalText_17 rfl rfl ?_
    exact j_iret C d_M_literalText_18 (by first | rfl | exact nar_b) (by
          have hn : ¬ onT s n1 = true := fun z => by
            first
            | exact onT_1 z h6
            | exact h14 (onT_2 z)
          rw [litText_0 hn]
          exact ⟨rfl, RepM.of M2 hR⟩) (by omega) (by omega)
  · refine j_iload_n (i := 1) (t := 10) C d_M_literalText_9 rfl rfl rfl ?_
    refine j_aload_n (i := 0) (t := 11) C d_M_literalText_10 rfl rfl (by first | exact jrv_r | exact jrv_n | exact jrv_f) rfl ?_
    refine j_get (t := 14) C fl_M_83 d_M_literalText_11 M2.1 rfl rfl ?_
    rw [r_tn]
    refine j_icmp_le (tgt := 19) (t := 17) C d_M_literalText_14 (by decide) rfl (fun h14 => ?_) (fun h14 => ?_)
    · obtain ⟨A, hA, rfl⟩ := nI_of h6
      have hAt : A ≤ g_tn s := (nI_leI hA (by omega)).mp h14
      have hon : onT s (nI A) = true := (onT_iff hA wtn).mpr hAt
      refine j_aload_n (i := 0) (t := 20) C d_M_literalText_19 rfl rfl (by first | exact jrv_r | exact jrv_n | exact jrv_f) rfl ?_
      refine j_iconst (x := 0) (t := 21) C d_M_literalText_20 rfl rfl ?_
      refine j_pt_tn (t := 24) C fp_M_83 d_M_literalText_21 M2 rfl (fun w21 M21 => ?_)
      obtain ⟨n2, M21, hR2, htap⟩ : ∃ n2 : jM, MH (xG X) w21 o q n2 ∧ relM (s_tn s 0) n2 ∧ mg_tape n2 = mg_tape n := ⟨_, M21, relM_tn0 hR, rfl⟩
      obtain ⟨t, ht⟩ : ∃ t, t = s_tn s 0 := ⟨_, rfl⟩
      rw [← ht] at hR2
      have hWt : WF t := by rw [ht]; exact WF_tn0 hW
      have ecc : g_cc t = g_cc s := by rw [ht]
      have eln : g_ln t = g_ln s := by rw [ht]
      have ln2 : mg_ln n2 = nI (g_ln t) := hR2.2.1.2.1
      have wlt : g_ln t ≤ 64 := by rw [eln]; exact wln
      refine j_aload_n (i := 0) (t := 25) C d_M_literalText_24 rfl rfl (by first | exact jrv_r | exact jrv_n | exact jrv_f) rfl ?_
      refine j_get (t := 28) C fl_M_101 d_M_literalText_25 M21.1 rfl rfl ?_
      refine j_bipush (x := nI 64) (t := 30) C d_M_literalText_28 rfl rfl ?_
      rw [ln2]
      refine j_icmp_eq (tgt := 40) (t := 33) C d_M_literalText_30 (by decide) rfl (fun h30 => ?_) (fun h30 => ?_)
      · refine j_iconst (x := (-1)) (t := 41) C d_M_literalText_40 rfl rfl ?_
        exact j_iret C d_M_literalText_41 (by first | rfl | exact nar_b) (by
              first
              | (rw [litText_f hon (fun z => absurd ((nI_eq (by omega) (by omega)).mp h30) (by have := z.1; omega)), ← ht]; exact ⟨rfl, RepM.of M21 hR2⟩)
              | (rw [litText_f hon (fun z => h37 z.2), ← ht]; exact ⟨rfl, RepM.of M21 hR2⟩)) (by omega) (by omega)
      · refine j_iload_n (i := 1) (t := 34) C d_M_literalText_33 rfl rfl rfl ?_
        refine j_sipush (x := nI 255) (t := 37) C d_M_literalText_34 rfl rfl ?_
        refine j_icmp_le (tgt := 42) (t := 40) C d_M_literalText_37 (by decide) rfl (fun h37 => ?_) (fun h37 => ?_)
        · have k3 : A ≤ 255 := fdl h37 hA (by omega)
          have k4 : g_ln t < 64 := fne h30 wlt
          refine j_aload_n (i := 0) (t := 43) C d_M_literalText_42 rfl rfl (by first | exact jrv_r | exact jrv_n | exact jrv_f) rfl ?_
          refine j_get (t := 46) C fl_M_55 d_M_literalText_43 M21.1 rfl rfl ?_
          refine j_aload_n (i := 0) (t := 47) C d_M_literalText_46 rfl rfl (by first | exact jrv_r | exact jrv_n | exact jrv_f) rfl ?_
          refine j_get (t := 50) C fl_M_101 d_M_literalText_47 M21.1 rfl rfl ?_
          refine j_iconst (x := 2) (t := 51) C d_M_literalText_50 rfl rfl ?_
          refine j_st_lt (i := g_ln t) (t := 52) C d_M_literalText_51 M21 (by exact ln2) (by omega) rfl (fun w51 M51 => ?_)
          obtain ⟨n3, hn3⟩ : ∃ n3 : jM, n3 = mp_lt n2 (upd (mg_lt n2) (g_ln t) 2) := ⟨_, rfl⟩
          rw [← hn3] at M51
          have ln3 : mg_ln n3 = nI (g_ln t) := by rw [hn3]; exact ln2
          have tp3 : mg_tape n3 = mg_tape n := by rw [hn3]; exact htap
          refine j_aload_n (i := 0) (t := 53) C d_M_literalText_52 rfl rfl (by first | exact jrv_r | exact jrv_n | exact jrv_f) rfl ?_
          refine j_sipush (x := nI 17632) (t := 56) C d_M_literalText_53 rfl rfl ?_
          refine j_aload_n (i := 0) (t := 57) C d_M_literalText_56 rfl rfl (by first | exact jrv_r | exact jrv_n | exact jrv_f) rfl ?_
          refine j_get (t := 60) C fl_M_101 d_M_literalText_57 M51.1 rfl rfl ?_
          rw [ln3]
          refine j_iadd (t := 61) C d_M_literalText_60 rfl ?_
          refine j_iload_n (i := 1) (t := 62) C d_M_literalText_61 rfl rfl rfl ?_
          refine j_ldc (x := nI 264192) (t := 64) C d_M_literalText_62 ct_M_104 rfl ?_
          refine j_sipush (x := nI 256) (t := 67) C d_M_literalText_64 rfl rfl ?_
          refine j_aload_n (i := 0) (t := 68) C d_M_literalText_67 rfl rfl (by first | exact jrv_r | exact jrv_n | exact jrv_f) rfl ?_
          refine j_get (t := 71) C fl_M_101 d_M_literalText_68 M51.1 rfl rfl ?_
          rw [ln3]
          refine j_imul (t := 72) C d_M_literalText_71 rfl ?_
          refine j_iadd (t := 73) C d_M_literalText_72 rfl ?_
          rw [nI_mul, nI_add, nI_add]
          refine j_callV (As := [_, _, _]) (t := 76) C (c_M_fromTape _ o q n3 (17632 + g_ln t) A (264192 + 256 * g_ln t)) d_M_literalText_73 jb_M_fromTape ml_M_97 jv_M_fromTape M51.1 rfl rfl rfl (Nat.le_of_ble_eq_true rfl) (by decide) (by omega) (by omega) (⟨rfl, M51, by omega, by omega, by omega⟩) rfl (fun r73 w73 p73 => ?_)
          obtain ⟨rfl, bb, M73, hb1, hb2⟩ := p73
          dsimp only [jst]
          obtain ⟨n4, hn4⟩ : ∃ n4 : jM, n4 = (mp_bytes (mp_from (mp_size (mp_num n3 (vp_updL (mg_num n3) (17632 + g_ln t) 0)) (upd (mg_size n3) (17632 + g_ln t) (nI A))) (upd (mg_from n3) (17632 + g_ln t) (nI (264192 + 256 * g_ln t)))) bb) := ⟨_, rfl⟩
          rw [← hn4] at M73
          have ln4 : mg_ln n4 = nI (g_ln t) := by rw [hn4]; exact ln3
          refine j_aload_n (i := 0) (t := 77) C d_M_literalText_76 rfl rfl (by first | exact jrv_r | exact jrv_n | exact jrv_f) rfl ?_
          refine j_dup (t := 78) C d_M_literalText_77 rfl rfl ?_
          refine j_get (t := 81) C fl_M_101 d_M_literalText_78 M73.1 rfl rfl ?_
          refine j_iconst (x := 1) (t := 82) C d_M_literalText_81 rfl rfl ?_
          rw [ln4]
          refine j_iadd (t := 83) C d_M_literalText_82 rfl ?_
          rw [nI_1]
          refine j_pt_ln (t := 86) C fp_M_101 d_M_literalText_83 M73 rfl (fun w83 M83 => ?_)
          refine j_aload_n (i := 0) (t := 87) C d_M_literalText_86 rfl rfl (by first | exact jrv_r | exact jrv_n | exact jrv_f) rfl ?_
          refine j_get (t := 90) C fl_M_101 d_M_literalText_87 M83.1 rfl rfl ?_
          refine j_iconst (x := 1) (t := 91) C d_M_literalText_90 rfl rfl ?_
          refine j_isub (t := 92) C d_M_literalText_91 rfl ?_
          exact j_iret C d_M_literalText_92 (by first | rfl | exact nar_b) (by
                rw [hn4, hn3] at M83
                have hz := relM_textlit (A := A) hR2 hWt k4 (tptx_len (s := s)) k3 (tp_at tp3 hb1 hAt r_tp) (fun b hb => (hb2 b hb).trans (by rw [hn3]))
                rw [ht] at hz
                rw [litText_t hon ⟨by omega, h37⟩, nI_clamp hA]
                refine ⟨?_, RepM.of M83 ?_⟩
                · rw [← eln]; exact congrArg (fun z => some (Value.int z)) (nI_pred (g_ln t))
                · rw [ht]; exact hz) (by omega) (by omega)
        · refine j_iconst (x := (-1)) (t := 41) C d_M_literalText_40 rfl rfl ?_
          exact j_iret C d_M_literalText_41 (by first | rfl | exact nar_b) (by
                first
                | (rw [litText_f hon (fun z => absurd ((nI_eq (by omega) (by omega)).mp h30) (by have := z.1; omega)), ← ht]; exact ⟨rfl, RepM.of M21 hR2⟩)
                | (rw [litText_f hon (fun z => h37 z.2), ← ht]; exact ⟨rfl, RepM.of M21 hR2⟩)) (by omega) (by omega)
    · refine j_iconst (x := (-1)) (t := 18) C d_M_literalText_17 rfl rfl ?_
      exact j_iret C d_M_literalText_18 (by first | rfl | exact nar_b) (by
            have hn : ¬ onT s n1 = true := fun z => by
              first
              | exact onT_1 z h6
              | exact h14 (onT_2 z)
            rw [litText_0 hn]
            exact ⟨rfl, RepM.of M2 hR⟩) (by omega) (by omega)
