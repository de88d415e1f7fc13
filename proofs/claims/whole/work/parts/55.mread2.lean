theorem fstR_n {f : Nat → Option jv} {r : Nat} (h : f r = none) : fstR f r = false := by unfold fstR; rw [h]
theorem fstR_s {f : Nat → Option jv} {r : Nat} {x : jv} (h : f r = some x) : fstR f r = !eqB f x r := by unfold fstR; rw [h]
set_option maxHeartbeats 4000000 in
set_option maxRecDepth 100000 in
/-- isIn -/
theorem c_M_isIn (l : Launch) (o : Nat) (q : Nat → Nat) (m : jM) (s : jS) (k v : Nat) (x : jv) : MC l y_M_isIn b_M_isIn 5 (some .boolean) 1 0 0
    (fun G w av => (av = [.ref o, .int (nI k), .int (nI v)] ∧ MH G w o q m ∧ relM s m ∧ WF s) ∧ k < g_sn s ∧ g_sk s k = 2 ∧ cmpOK m (g_ty s (g_sc s k)) v x)
    (fun G w av r w' => w' = w ∧ r = some (.int (bI (amg x (g_lit s) (oP s k) (oM s k))))) := by
  refine MC.of 99 (by decide) ?_
  intro X w av hl C hnm hp
  obtain ⟨hp, hk, hk2, hv⟩ := hp
  obtain ⟨rfl, hM, hR, hW⟩ := hp
  obtain ⟨⟨r_tn, r_tp⟩, ⟨r_cc, r_ln, r_sn, r_zn⟩, r_col, r_new, r_sz, r_lit, r_st, r_zt⟩ := id hR
  obtain ⟨wtn, wtp, wcc, wln, wsn, wzn, wcol, wlit, wst, wzt⟩ := id hW
  obtain ⟨hsc, P, N1, eP, eN, hoP, hoM, hPN, hN1, hty⟩ := st_2 hW hk hk2
  have hk5 : g_sk s k < 5 := by rw [hk2]; decide
  rw [hoP, hoM]
  refine ⟨[(0, _), (1, _), (2, _)], rfl, Nat.le_of_ble_eq_true rfl, rfl, ?_⟩
  have loop : ∀ (qq n : Nat) (b : Bool), N1 + 1 ≤ n + qq → n ≤ N1 → b = amg x (g_lit s) P n → J X (5, 99) (jQ X (fun r w' => w' = w ∧ r = some (.int (bI (amg x (g_lit s) P N1)))) 0 0) w 0 0 5 [(0, .ref o), (1, .int (nI k)), (2, .int (nI v)), (3, .int (bI b)), (4, .int (nI n))] [] := by
    intro qq
    induction qq with
    | zero => intro n b h1 h2; omega
    | succ qq ih =>
      intro n b hn1 hn2 hb
      refine j_iload (t := 7) C d_M_isIn_5 rfl rfl ?_
      refine j_aload_n (i := 0) (t := 8) C d_M_isIn_7 rfl rfl (by first | exact jrv_r | exact jrv_n | exact jrv_f) rfl ?_
      refine j_get (t := 11) C fl_M_70 d_M_isIn_8 hM.1 rfl rfl ?_
      refine j_iload_n (i := 1) (t := 12) C d_M_isIn_11 rfl rfl rfl ?_
      refine j_ld_mn (i := k) (t := 13) C d_M_isIn_12 hM (by first | rfl | simp only [nI_add, nI_mul, nI_1]) (by omega) ((r_st k hk).2.2.2.2.trans eN) rfl ?_
      refine j_icmp_ge (tgt := 64) (t := 16) C d_M_isIn_13 (by decide) rfl (fun h13 => ?_) (fun h13 => ?_)
      · refine j_iload_n (i := 3) (t := 65) C d_M_isIn_64 rfl rfl rfl ?_
        exact j_iret C d_M_isIn_65 (by first | rfl | exact nar_b) (⟨rfl, by rw [nI_leI (by omega) (by omega)] at h13; rw [hb, show n = N1 by omega]⟩) (by omega) (by omega)
      · rw [nI_leI (by omega) (by omega)] at h13
        refine j_iload_n (i := 3) (t := 17) C d_M_isIn_16 rfl rfl rfl ?_
        refine j_if_ne (tgt := 52) (t := 20) C d_M_isIn_17 (by decide) rfl (fun h17 => ?_) (fun h17 => ?_)
        · refine j_iconst (x := 1) (t := 53) C d_M_isIn_52 rfl rfl ?_
          refine j_goto (tgt := 57) C d_M_isIn_53 (by decide) ?_
          refine j_istore_n (i := 3) (t := 58) (lv' := [(0, _), (1, _), (2, _), (3, _), (4, _)]) C d_M_isIn_57 rfl (by decide) (by decide) rfl rfl ?_
          refine j_iinc (y := _ + 1) (t := 61) (lv' := [(0, _), (1, _), (2, _), (3, _), (4, _)]) C d_M_isIn_58 rfl rfl (by decide) (by decide) rfl rfl ?_
          refine j_goto (tgt := 5) C d_M_isIn_61 (by decide) ?_
          rw [nI_1]
          first
          | (rw [bI_0, Bool.not_eq_false] at h17; exact ih (n + 1) true (by omega) (by omega) (amg_0 (hb.symm.trans h17)).symm)
          | exact ih (n + 1) true (by omega) (by omega) (amg_true (i := n) (by omega) (s46.1.2.mp h49)).symm
          | (rw [bI_0] at h17; exact ih (n + 1) false (by omega) (by omega) (amg_next (hb.symm.trans h17) (fun z => h49 (s46.1.2.mpr z))).symm)
        · refine j_aload_n (i := 0) (t := 21) C d_M_isIn_20 rfl rfl (by first | exact jrv_r | exact jrv_n | exact jrv_f) rfl ?_
          refine j_aload_n (i := 0) (t := 22) C d_M_isIn_21 rfl rfl (by first | exact jrv_r | exact jrv_n | exact jrv_f) rfl ?_
          refine j_get (t := 25) C fl_M_27 d_M_isIn_22 hM.1 rfl rfl ?_
          refine j_aload_n (i := 0) (t := 26) C d_M_isIn_25 rfl rfl (by first | exact jrv_r | exact jrv_n | exact jrv_f) rfl ?_
          refine j_get (t := 29) C fl_M_61 d_M_isIn_26 hM.1 rfl rfl ?_
          refine j_iload_n (i := 1) (t := 30) C d_M_isIn_29 rfl rfl rfl ?_
          refine j_ld_fi (i := k) (t := 31) C d_M_isIn_30 hM (by first | rfl | simp only [nI_add, nI_mul, nI_1]) (by omega) ((r_st k hk).2.1 hk5) rfl ?_
          refine j_ld_ty (i := g_sc s k) (t := 32) C d_M_isIn_31 hM (by first | rfl | simp only [nI_add, nI_mul, nI_1]) (by omega) ((r_col _ hsc).1) rfl ?_
          refine j_iload_n (i := 2) (t := 33) C d_M_isIn_32 rfl rfl rfl ?_
          refine j_sipush (x := nI 17632) (t := 36) C d_M_isIn_33 rfl rfl ?_
          refine j_aload_n (i := 0) (t := 37) C d_M_isIn_36 rfl rfl (by first | exact jrv_r | exact jrv_n | exact jrv_f) rfl ?_
          refine j_get (t := 40) C fl_M_67 d_M_isIn_37 hM.1 rfl rfl ?_
          refine j_iload_n (i := 1) (t := 41) C d_M_isIn_40 rfl rfl rfl ?_
          refine j_ld_ot (i := k) (t := 42) C d_M_isIn_41 hM (by first | rfl | simp only [nI_add, nI_mul, nI_1]) (by omega) ((r_st k hk).2.2.2.1.trans eP) rfl ?_
          refine j_iadd (t := 43) C d_M_isIn_42 rfl ?_
          refine j_iload (t := 45) C d_M_isIn_43 rfl rfl ?_
          refine j_iadd (t := 46) C d_M_isIn_45 rfl ?_
          rw [nI_add, nI_add, Nat.add_assoc]
          refine j_callV (As := [_, _, _]) (t := 49) C (c_M_cmp _ o q m (g_ty s (g_sc s k)) (v) (17632 + (P + n)) (x) (g_lit s (P + n))) d_M_isIn_46 jb_M_compare ml_M_116 jv_M_compare hM.1 rfl rfl rfl (Nat.le_of_ble_eq_true rfl) (by decide) (by omega) (by omega) (⟨rfl, hM, hv, lit_ok hR hW (by omega) (hty (P + n) (by omega) (by omega))⟩) rfl (fun r46 w46 p46 => ?_)
          obtain ⟨rfl, z46, rfl, s46⟩ := p46
          dsimp only [jst]
          refine j_if_ne (tgt := 56) (t := 52) C d_M_isIn_49 (by decide) rfl (fun h49 => ?_) (fun h49 => ?_)
          · refine j_iconst (x := 0) (t := 57) C d_M_isIn_56 rfl rfl ?_
            refine j_istore_n (i := 3) (t := 58) (lv' := [(0, _), (1, _), (2, _), (3, _), (4, _)]) C d_M_isIn_57 rfl (by decide) (by decide) rfl rfl ?_
            refine j_iinc (y := _ + 1) (t := 61) (lv' := [(0, _), (1, _), (2, _), (3, _), (4, _)]) C d_M_isIn_58 rfl rfl (by decide) (by decide) rfl rfl ?_
            refine j_goto (tgt := 5) C d_M_isIn_61 (by decide) ?_
            rw [nI_1]
            first
            | (rw [bI_0, Bool.not_eq_false] at h17; exact ih (n + 1) true (by omega) (by omega) (amg_0 (hb.symm.trans h17)).symm)
            | exact ih (n + 1) true (by omega) (by omega) (amg_true (i := n) (by omega) (s46.1.2.mp h49)).symm
            | (rw [bI_0] at h17; exact ih (n + 1) false (by omega) (by omega) (amg_next (hb.symm.trans h17) (fun z => h49 (s46.1.2.mpr z))).symm)
          · refine j_iconst (x := 1) (t := 53) C d_M_isIn_52 rfl rfl ?_
            refine j_goto (tgt := 57) C d_M_isIn_53 (by decide) ?_
            refine j_istore_n (i := 3) (t := 58) (lv' := [(0, _), (1, _), (2, _), (3, _), (4, _)]) C d_M_isIn_57 rfl (by decide) (by decide) rfl rfl ?_
            refine j_iinc (y := _ + 1) (t := 61) (lv' := [(0, _), (1, _), (2, _), (3, _), (4, _)]) C d_M_isIn_58 rfl rfl (by decide) (by decide) rfl rfl ?_
            refine j_goto (tgt := 5) C d_M_isIn_61 (by decide) ?_
            rw [nI_1]
            first
            | (rw [bI_0, Bool.not_eq_false] at h17; exact ih (n + 1) true (by omega) (by omega) (amg_0 (hb.symm.trans h17)).symm)
            | exact ih (n + 1) true (by omega) (by omega) (amg_true (i := n) (by omega) (s46.1.2.mp h49)).symm
            | (rw [bI_0] at h17; exact ih (n + 1) false (by omega) (by omega) (amg_next (hb.symm.trans h17) (fun z => h49 (s46.1.2.mpr z))).symm)
  refine j_iconst (x := 0) (t := 1) C d_M_isIn_0 rfl rfl ?_
  refine j_istore_n (i := 3) (t := 2) (lv' := [(0, _), (1, _), (2, _), (3, _)]) C d_M_isIn_1 rfl (by decide) (by decide) rfl rfl ?_
  refine j_iconst (x := 0) (t := 3) C d_M_isIn_2 rfl rfl ?_
  refine j_istore (i := 4) (t := 5) (lv' := [(0, _), (1, _), (2, _), (3, _), (4, _)]) C d_M_isIn_3 (by decide) (by decide) rfl rfl ?_
  exact loop (N1 + 1) 0 false (by omega) (Nat.zero_le _) rfl

set_option maxHeartbeats 4000000 in
set_option maxRecDepth 100000 in
/-- may -/
theorem c_M_may (l : Launch) (o : Nat) (q : Nat → Nat) (m : jM) (s : jS) (c v : Nat) (op : Int32) (x : jv) (p : jv × jv) : MC l y_M_may b_M_may 7 (some .boolean) 1 0 0
    (fun G w av => (av = [.ref o, .int (nI c), .int op, .int (nI v)] ∧ MH G w o q m ∧ relM s m ∧ WF s) ∧ c < g_cc s ∧ g_kn s c = true ∧ g_mo s c = some p ∧ (¬ op < 0 ∧ op ≤ 5) ∧ cmpOK m (g_ty s c) v x)
    (fun G w av r w' => w' = w ∧ r = some (.int (bI (cmL op p.1 p.2 (g_ec s c) (g_ef s c) x)))) := by
  refine MC.of 99 (by decide) ?_
  intro X w av hl C hnm hp
  obtain ⟨hp, hc, hkn, hmo, ⟨ho1, ho5⟩, hv⟩ := hp
  obtain ⟨rfl, hM, hR, hW⟩ := hp
  obtain ⟨⟨r_tn, r_tp⟩, ⟨r_cc, r_ln, r_sn, r_zn⟩, r_col, r_new, r_sz, r_lit, r_st, r_zt⟩ := id hR
  obtain ⟨wtn, wtp, wcc, wln, wsn, wzn, wcol, wlit, wst, wzt⟩ := id hW
  have hec := ((r_col c hc).2.2.2.2.2 hkn).2.2.2.1
  have hecl := ((wcol c hc).2.2.2.2 hkn).2.2.2.2.1
  have hty := (r_col c hc).1
  obtain ⟨hlo, hhi⟩ := lo_ok hR hW hc hkn hmo
  refine ⟨[(0, _), (1, _), (2, _), (3, _)], rfl, Nat.le_of_ble_eq_true rfl, rfl, ?_⟩
  have loop : ∀ (qq n : Nat) (b : Bool), g_ec s c + 1 ≤ n + qq → n ≤ g_ec s c → b = anH op (g_ef s c) x n → J X (7, 99) (jQ X (fun r w' => w' = w ∧ r = some (.int (bI (cmL op p.1 p.2 (g_ec s c) (g_ef s c) x)))) 0 0) w 0 0 6 [(0, .ref o), (1, .int (nI c)), (2, .int op), (3, .int (nI v)), (4, .int (bI b)), (5, .int (nI n))] [] := by
    intro qq
    induction qq with
    | zero => intro n b h1 h2; omega
    | succ qq ih =>
      intro n b hn1 hn2 hb
      refine j_iload (t := 8) C d_M_may_6 rfl rfl ?_
      refine j_aload_n (i := 0) (t := 9) C d_M_may_8 rfl rfl (by first | exact jrv_r | exact jrv_n | exact jrv_f) rfl ?_
      refine j_get (t := 12) C fl_M_42 d_M_may_9 hM.1 rfl rfl ?_
      refine j_iload_n (i := 1) (t := 13) C d_M_may_12 rfl rfl rfl ?_
      refine j_ld_wd (i := c) (t := 14) C d_M_may_13 hM (by first | rfl | simp only [nI_add, nI_mul, nI_1]) (by omega) (hec) rfl ?_
      refine j_icmp_ge (tgt := 64) (t := 17) C d_M_may_14 (by decide) rfl (fun h14 => ?_) (fun h14 => ?_)
      · have hn : n = g_ec s c := by rw [nI_leI (by omega) (by omega)] at h14; omega
        rw [hn] at hb
        refine j_aload_n (i := 0) (t := 65) C d_M_may_64 rfl rfl (by first | exact jrv_r | exact jrv_n | exact jrv_f) rfl ?_
        refine j_get (t := 68) C fl_M_42 d_M_may_65 hM.1 rfl rfl ?_
        refine j_iload_n (i := 1) (t := 69) C d_M_may_68 rfl rfl rfl ?_
        refine j_ld_wd (i := c) (t := 70) C d_M_may_69 hM (by first | rfl | simp only [nI_add, nI_mul, nI_1]) (by omega) (hec) rfl ?_
        refine j_if_le (tgt := 76) (t := 73) C d_M_may_70 (by decide) rfl (fun h70 => ?_) (fun h70 => ?_)
        · have hz : g_ec s c = 0 := Nat.eq_zero_of_not_pos (fun z => nI_nle z (by omega) h70)
          refine j_aload_n (i := 0) (t := 77) C d_M_may_76 rfl rfl (by first | exact jrv_r | exact jrv_n | exact jrv_f) rfl ?_
          refine j_aload_n (i := 0) (t := 78) C d_M_may_77 rfl rfl (by first | exact jrv_r | exact jrv_n | exact jrv_f) rfl ?_
          refine j_get (t := 81) C fl_M_27 d_M_may_78 hM.1 rfl rfl ?_
          refine j_iload_n (i := 1) (t := 82) C d_M_may_81 rfl rfl rfl ?_
          refine j_ld_ty (i := c) (t := 83) C d_M_may_82 hM (by first | rfl | simp only [nI_add, nI_mul, nI_1]) (by omega) (hty) rfl ?_
          refine j_sipush (x := nI 16000) (t := 86) C d_M_may_83 rfl rfl ?_
          refine j_iload_n (i := 1) (t := 87) C d_M_may_86 rfl rfl rfl ?_
          refine j_iadd (t := 88) C d_M_may_87 rfl ?_
          refine j_iload_n (i := 3) (t := 89) C d_M_may_88 rfl rfl rfl ?_
          rw [nI_add]
          refine j_callV (As := [_, _, _]) (t := 92) C (c_M_cmp _ o q m (g_ty s c) (16000 + c) (v) (p.1) (x)) d_M_may_89 jb_M_compare ml_M_116 jv_M_compare hM.1 rfl rfl rfl (Nat.le_of_ble_eq_true rfl) (by decide) (by omega) (by omega) (⟨rfl, hM, hlo, hv⟩) rfl (fun r89 w89 p89 => ?_)
          obtain ⟨rfl, z89, rfl, s89⟩ := p89
          dsimp only [jst]
          refine j_istore (i := 5) (t := 94) (lv' := [(0, _), (1, _), (2, _), (3, _), (4, _), (5, _)]) C d_M_may_92 (by decide) (by decide) rfl rfl ?_
          refine j_aload_n (i := 0) (t := 95) C d_M_may_94 rfl rfl (by first | exact jrv_r | exact jrv_n | exact jrv_f) rfl ?_
          refine j_aload_n (i := 0) (t := 96) C d_M_may_95 rfl rfl (by first | exact jrv_r | exact jrv_n | exact jrv_f) rfl ?_
          refine j_get (t := 99) C fl_M_27 d_M_may_96 hM.1 rfl rfl ?_
          refine j_iload_n (i := 1) (t := 100) C d_M_may_99 rfl rfl rfl ?_
          refine j_ld_ty (i := c) (t := 101) C d_M_may_100 hM (by first | rfl | simp only [nI_add, nI_mul, nI_1]) (by omega) (hty) rfl ?_
          refine j_sipush (x := nI 16016) (t := 104) C d_M_may_101 rfl rfl ?_
          refine j_iload_n (i := 1) (t := 105) C d_M_may_104 rfl rfl rfl ?_
          refine j_iadd (t := 106) C d_M_may_105 rfl ?_
          refine j_iload_n (i := 3) (t := 107) C d_M_may_106 rfl rfl rfl ?_
          rw [nI_add]
          refine j_callV (As := [_, _, _]) (t := 110) C (c_M_cmp _ o q m (g_ty s c) (16016 + c) (v) (p.2) (x)) d_M_may_107 jb_M_compare ml_M_116 jv_M_compare hM.1 rfl rfl rfl (Nat.le_of_ble_eq_true rfl) (by decide) (by omega) (by omega) (⟨rfl, hM, hhi, hv⟩) rfl (fun r107 w107 p107 => ?_)
          obtain ⟨rfl, z107, rfl, s107⟩ := p107
          dsimp only [jst]
          refine j_istore (i := 6) (t := 112) (lv' := [(0, _), (1, _), (2, _), (3, _), (4, _), (5, _), (6, _)]) C d_M_may_110 (by decide) (by decide) rfl rfl ?_
          refine j_iload_n (i := 2) (t := 113) C d_M_may_112 rfl rfl rfl ?_
          refine j_if_ne (tgt := 132) (t := 116) C d_M_may_113 (by decide) rfl (fun h113 => ?_) (fun h113 => ?_)
          · refine j_iload_n (i := 2) (t := 133) C d_M_may_132 rfl rfl rfl ?_
            refine j_iconst (x := 1) (t := 134) C d_M_may_133 rfl rfl ?_
            refine j_icmp_ne (tgt := 155) (t := 137) C d_M_may_134 (by decide) rfl (fun h134 => ?_) (fun h134 => ?_)
            · refine j_iload_n (i := 2) (t := 156) C d_M_may_155 rfl rfl rfl ?_
              refine j_iload_n (i := 2) (t := 157) C d_M_may_156 rfl rfl rfl ?_
              refine j_iconst (x := 4) (t := 158) C d_M_may_157 rfl rfl ?_
              refine j_icmp_ge (tgt := 166) (t := 161) C d_M_may_158 (by decide) rfl (fun h158 => ?_) (fun h158 => ?_)
              · refine j_iload (t := 168) C d_M_may_166 rfl rfl ?_
                refine j_callS (As := [_, _]) (t := 171) C (c_M_holds _ op _) d_M_may_168 jb_M_holds ml_M_120 st_M_holds rfl (Nat.le_of_ble_eq_true rfl) (by decide) (by omega) (by omega) (rfl) rfl (fun r168 w168 p168 => ?_)
                obtain ⟨rfl, rfl⟩ := p168
                dsimp only [jst]
                exact j_iret C d_M_may_171 (by first | rfl | exact nar_b) (⟨rfl, by rw [cmL_0 hz, cH_of ho1 ho5 s89 s107, if_neg h113]; first | (rw [if_pos h134]; first | rw [fin_o1 h139] | rw [fin_o2 h144] | rw [fin_o3 h139 h144]) | (rw [if_neg h134]; first | rw [if_pos h158] | rw [if_neg h158])⟩) (by omega) (by omega)
              · refine j_iload (t := 163) C d_M_may_161 rfl rfl ?_
                refine j_goto (tgt := 168) C d_M_may_163 (by decide) ?_
                refine j_callS (As := [_, _]) (t := 171) C (c_M_holds _ op _) d_M_may_168 jb_M_holds ml_M_120 st_M_holds rfl (Nat.le_of_ble_eq_true rfl) (by decide) (by omega) (by omega) (rfl) rfl (fun r168 w168 p168 => ?_)
                obtain ⟨rfl, rfl⟩ := p168
                dsimp only [jst]
                exact j_iret C d_M_may_171 (by first | rfl | exact nar_b) (⟨rfl, by rw [cmL_0 hz, cH_of ho1 ho5 s89 s107, if_neg h113]; first | (rw [if_pos h134]; first | rw [fin_o1 h139] | rw [fin_o2 h144] | rw [fin_o3 h139 h144]) | (rw [if_neg h134]; first | rw [if_pos h158] | rw [if_neg h158])⟩) (by omega) (by omega)
            · refine j_iload (t := 139) C d_M_may_137 rfl rfl ?_
              refine j_if_ne (tgt := 147) (t := 142) C d_M_may_139 (by decide) rfl (fun h139 => ?_) (fun h139 => ?_)
              · refine j_iconst (x := 1) (t := 148) C d_M_may_147 rfl rfl ?_
                refine j_goto (tgt := 171) C d_M_may_148 (by decide) ?_
                exact j_iret C d_M_may_171 (by first | rfl | exact nar_b) (⟨rfl, by rw [cmL_0 hz, cH_of ho1 ho5 s89 s107, if_neg h113]; first | (rw [if_pos h134]; first | rw [fin_o1 h139] | rw [fin_o2 h144] | rw [fin_o3 h139 h144]) | (rw [if_neg h134]; first | rw [if_pos h158] | rw [if_neg h158])⟩) (by omega) (by omega)
              · refine j_iload (t := 144) C d_M_may_142 rfl rfl ?_
                refine j_if_eq (tgt := 151) (t := 147) C d_M_may_144 (by decide) rfl (fun h144 => ?_) (fun h144 => ?_)
                · refine j_iconst (x := 0) (t := 152) C d_M_may_151 rfl rfl ?_
                  refine j_goto (tgt := 171) C d_M_may_152 (by decide) ?_
                  exact j_iret C d_M_may_171 (by first | rfl | exact nar_b) (⟨rfl, by rw [cmL_0 hz, cH_of ho1 ho5 s89 s107, if_neg h113]; first | (rw [if_pos h134]; first | rw [fin_o1 h139] | rw [fin_o2 h144] | rw [fin_o3 h139 h144]) | (rw [if_neg h134]; first | rw [if_pos h158] | rw [if_neg h158])⟩) (by omega) (by omega)
                · refine j_iconst (x := 1) (t := 148) C d_M_may_147 rfl rfl ?_
                  refine j_goto (tgt := 171) C d_M_may_148 (by decide) ?_
                  exact j_iret C d_M_may_171 (by first | rfl | exact nar_b) (⟨rfl, by rw [cmL_0 hz, cH_of ho1 ho5 s89 s107, if_neg h113]; first | (rw [if_pos h134]; first | rw [fin_o1 h139] | rw [fin_o2 h144] | rw [fin_o3 h139 h144]) | (rw [if_neg h134]; first | rw [if_pos h158] | rw [if_neg h158])⟩) (by omega) (by omega)
          · refine j_iload (t := 118) C d_M_may_116 rfl rfl ?_
            refine j_if_gt (tgt := 130) (t := 121) C d_M_may_118 (by decide) rfl (fun h118 => ?_) (fun h118 => ?_)
            · refine j_iconst (x := 0) (t := 131) C d_M_may_130 rfl rfl ?_
              exact j_iret C d_M_may_131 (by first | rfl | exact nar_b) (⟨rfl, by rw [cmL_0 hz, cH_of ho1 ho5 s89 s107, if_pos h113]; first | rw [fin_a1 h118 h123] | rw [fin_a2 h118] | rw [fin_a3 h123]⟩) (by omega) (by omega)
            · refine j_iload (t := 123) C d_M_may_121 rfl rfl ?_
              refine j_if_lt (tgt := 130) (t := 126) C d_M_may_123 (by decide) rfl (fun h123 => ?_) (fun h123 => ?_)
              · refine j_iconst (x := 0) (t := 131) C d_M_may_130 rfl rfl ?_
                exact j_iret C d_M_may_131 (by first | rfl | exact nar_b) (⟨rfl, by rw [cmL_0 hz, cH_of ho1 ho5 s89 s107, if_pos h113]; first | rw [fin_a1 h118 h123] | rw [fin_a2 h118] | rw [fin_a3 h123]⟩) (by omega) (by omega)
              · refine j_iconst (x := 1) (t := 127) C d_M_may_126 rfl rfl ?_
                refine j_goto (tgt := 131) C d_M_may_127 (by decide) ?_
                exact j_iret C d_M_may_131 (by first | rfl | exact nar_b) (⟨rfl, by rw [cmL_0 hz, cH_of ho1 ho5 s89 s107, if_pos h113]; first | rw [fin_a1 h118 h123] | rw [fin_a2 h118] | rw [fin_a3 h123]⟩) (by omega) (by omega)
        · refine j_iload (t := 75) C d_M_may_73 rfl rfl ?_
          exact j_iret C d_M_may_75 (by first | rfl | exact nar_b) (⟨rfl, by rw [cmL_e (Nat.pos_of_ne_zero (fun z => h70 (by rw [z]; decide))), hb]⟩) (by omega) (by omega)
      · rw [nI_leI (by omega) (by omega)] at h14
        refine j_iload (t := 19) C d_M_may_17 rfl rfl ?_
        refine j_if_ne (tgt := 51) (t := 22) C d_M_may_19 (by decide) rfl (fun h19 => ?_) (fun h19 => ?_)
        · refine j_iconst (x := 1) (t := 52) C d_M_may_51 rfl rfl ?_
          refine j_goto (tgt := 56) C d_M_may_52 (by decide) ?_
          refine j_istore (i := 4) (t := 58) (lv' := [(0, _), (1, _), (2, _), (3, _), (4, _), (5, _)]) C d_M_may_56 (by decide) (by decide) rfl rfl ?_
          refine j_iinc (y := _ + 1) (t := 61) (lv' := [(0, _), (1, _), (2, _), (3, _), (4, _), (5, _)]) C d_M_may_58 rfl rfl (by decide) (by decide) rfl rfl ?_
          refine j_goto (tgt := 6) C d_M_may_61 (by decide) ?_
          rw [nI_1]
          first
          | (rw [bI_0, Bool.not_eq_false] at h19; exact ih (n + 1) true (by omega) (by omega) (anH_0 (hb.symm.trans h19)).symm)
          | (rw [bI_0, Bool.not_eq_false] at h48; exact ih (n + 1) true (by omega) (by omega) (anH_true (i := n) (by omega) h48).symm)
          | (rw [bI_0] at h19 h48; exact ih (n + 1) false (by omega) (by omega) (anH_next (hb.symm.trans h19) h48).symm)
        · refine j_iload_n (i := 2) (t := 23) C d_M_may_22 rfl rfl rfl ?_
          refine j_aload_n (i := 0) (t := 24) C d_M_may_23 rfl rfl (by first | exact jrv_r | exact jrv_n | exact jrv_f) rfl ?_
          refine j_aload_n (i := 0) (t := 25) C d_M_may_24 rfl rfl (by first | exact jrv_r | exact jrv_n | exact jrv_f) rfl ?_
          refine j_get (t := 28) C fl_M_27 d_M_may_25 hM.1 rfl rfl ?_
          refine j_iload_n (i := 1) (t := 29) C d_M_may_28 rfl rfl rfl ?_
          refine j_ld_ty (i := c) (t := 30) C d_M_may_29 hM (by first | rfl | simp only [nI_add, nI_mul, nI_1]) (by omega) (hty) rfl ?_
          refine j_sipush (x := nI 16032) (t := 33) C d_M_may_30 rfl rfl ?_
          refine j_bipush (x := nI 100) (t := 35) C d_M_may_33 rfl rfl ?_
          refine j_iload_n (i := 1) (t := 36) C d_M_may_35 rfl rfl rfl ?_
          refine j_imul (t := 37) C d_M_may_36 rfl ?_
          refine j_iadd (t := 38) C d_M_may_37 rfl ?_
          refine j_iload (t := 40) C d_M_may_38 rfl rfl ?_
          refine j_iadd (t := 41) C d_M_may_40 rfl ?_
          refine j_iload_n (i := 3) (t := 42) C d_M_may_41 rfl rfl rfl ?_
          rw [nI_mul, nI_add, nI_add]
          refine j_callV (As := [_, _, _]) (t := 45) C (c_M_cmp _ o q m (g_ty s c) (16032 + 100 * c + n) (v) (g_ef s c n) (x)) d_M_may_42 jb_M_compare ml_M_116 jv_M_compare hM.1 rfl rfl rfl (Nat.le_of_ble_eq_true rfl) (by decide) (by omega) (by omega) (⟨rfl, hM, word_ok hR hW hc hkn (by omega), hv⟩) rfl (fun r42 w42 p42 => ?_)
          obtain ⟨rfl, z42, rfl, s42⟩ := p42
          dsimp only [jst]
          refine j_callS (As := [_, _]) (t := 48) C (c_M_holds _ op z42) d_M_may_45 jb_M_holds ml_M_120 st_M_holds rfl (Nat.le_of_ble_eq_true rfl) (by decide) (by omega) (by omega) (rfl) rfl (fun r45 w45 p45 => ?_)
          obtain ⟨rfl, rfl⟩ := p45
          dsimp only [jst]
          rw [hO_sg s42.1]
          refine j_if_eq (tgt := 55) (t := 51) C d_M_may_48 (by decide) rfl (fun h48 => ?_) (fun h48 => ?_)
          · refine j_iconst (x := 0) (t := 56) C d_M_may_55 rfl rfl ?_
            refine j_istore (i := 4) (t := 58) (lv' := [(0, _), (1, _), (2, _), (3, _), (4, _), (5, _)]) C d_M_may_56 (by decide) (by decide) rfl rfl ?_
            refine j_iinc (y := _ + 1) (t := 61) (lv' := [(0, _), (1, _), (2, _), (3, _), (4, _), (5, _)]) C d_M_may_58 rfl rfl (by decide) (by decide) rfl rfl ?_
            refine j_goto (tgt := 6) C d_M_may_61 (by decide) ?_
            rw [nI_1]
            first
            | (rw [bI_0, Bool.not_eq_false] at h19; exact ih (n + 1) true (by omega) (by omega) (anH_0 (hb.symm.trans h19)).symm)
            | (rw [bI_0, Bool.not_eq_false] at h48; exact ih (n + 1) true (by omega) (by omega) (anH_true (i := n) (by omega) h48).symm)
            | (rw [bI_0] at h19 h48; exact ih (n + 1) false (by omega) (by omega) (anH_next (hb.symm.trans h19) h48).symm)
          · refine j_iconst (x := 1) (t := 52) C d_M_may_51 rfl rfl ?_
            refine j_goto (tgt := 56) C d_M_may_52 (by decide) ?_
            refine j_istore (i := 4) (t := 58) (lv' := [(0, _), (1, _), (2, _), (3, _), (4, _), (5, _)]) C d_M_may_56 (by decide) (by decide) rfl rfl ?_
            refine j_iinc (y := _ + 1) (t := 61) (lv' := [(0, _), (1, _), (2, _), (3, _), (4, _), (5, _)]) C d_M_may_58 rfl rfl (by decide) (by decide) rfl rfl ?_
            refine j_goto (tgt := 6) C d_M_may_61 (by decide) ?_
            rw [nI_1]
            first
            | (rw [bI_0, Bool.not_eq_false] at h19; exact ih (n + 1) true (by omega) (by omega) (anH_0 (hb.symm.trans h19)).symm)
            | (rw [bI_0, Bool.not_eq_false] at h48; exact ih (n + 1) true (by omega) (by omega) (anH_true (i := n) (by omega) h48).symm)
            | (rw [bI_0] at h19 h48; exact ih (n + 1) false (by omega) (by omega) (anH_next (hb.symm.trans h19) h48).symm)
  refine j_iconst (x := 0) (t := 1) C d_M_may_0 rfl rfl ?_
  refine j_istore (i := 4) (t := 3) (lv' := [(0, _), (1, _), (2, _), (3, _), (4, _)]) C d_M_may_1 (by decide) (by decide) rfl rfl ?_
  refine j_iconst (x := 0) (t := 4) C d_M_may_3 rfl rfl ?_
  refine j_istore (i := 5) (t := 6) (lv' := [(0, _), (1, _), (2, _), (3, _), (4, _), (5, _)]) C d_M_may_4 (by decide) (by decide) rfl rfl ?_
  exact loop (g_ec s c + 1) 0 false (by omega) (Nat.zero_le _) rfl

set_option maxHeartbeats 4000000 in
set_option maxRecDepth 100000 in
/-- mayMeet -/
theorem c_M_mayMeet (l : Launch) (o : Nat) (q : Nat → Nat) (m : jM) (s : jS) (c d : Nat) (op : Int32) (p p2 : jv × jv) : MC l y_M_mayMeet b_M_mayMeet 6 (some .boolean) 1 0 0
    (fun G w av => (av = [.ref o, .int (nI c), .int op, .int (nI d)] ∧ MH G w o q m ∧ relM s m ∧ WF s) ∧ (c < g_cc s ∧ g_kn s c = true ∧ g_mo s c = some p) ∧ (d < g_cc s ∧ g_kn s d = true ∧ g_mo s d = some p2) ∧ g_ty s d = g_ty s c ∧ (¬ op < 0 ∧ op ≤ 5))
    (fun G w av r w' => w' = w ∧ r = some (.int (bI (cH op p.1 p.2 p2.1 p2.2)))) := by
  refine MC.of 99 (by decide) ?_
  intro X w av hl C hnm hp
  obtain ⟨hp, ⟨hc, hkn, hmo⟩, ⟨hd, hkd, hmd⟩, htd, ⟨ho1, ho5⟩⟩ := hp
  obtain ⟨rfl, hM, hR, hW⟩ := hp
  obtain ⟨⟨r_tn, r_tp⟩, ⟨r_cc, r_ln, r_sn, r_zn⟩, r_col, r_new, r_sz, r_lit, r_st, r_zt⟩ := id hR
  obtain ⟨wtn, wtp, wcc, wln, wsn, wzn, wcol, wlit, wst, wzt⟩ := id hW
  have hty := (r_col c hc).1
  obtain ⟨hlo, hhi⟩ := lo_ok hR hW hc hkn hmo
  obtain ⟨hlo2, hhi2⟩ := lo_ok hR hW hd hkd hmd
  rw [htd] at hlo2 hhi2
  refine ⟨[(0, _), (1, _), (2, _), (3, _)], rfl, Nat.le_of_ble_eq_true rfl, rfl, ?_⟩
  refine j_aload_n (i := 0) (t := 1) C d_M_mayMeet_0 rfl rfl (by first | exact jrv_r | exact jrv_n | exact jrv_f) rfl ?_
  refine j_aload_n (i := 0) (t := 2) C d_M_mayMeet_1 rfl rfl (by first | exact jrv_r | exact jrv_n | exact jrv_f) rfl ?_
  refine j_get (t := 5) C fl_M_27 d_M_mayMeet_2 hM.1 rfl rfl ?_
  refine j_iload_n (i := 1) (t := 6) C d_M_mayMeet_5 rfl rfl rfl ?_
  refine j_ld_ty (i := c) (t := 7) C d_M_mayMeet_6 hM (by first | rfl | simp only [nI_add, nI_mul, nI_1]) (by omega) (hty) rfl ?_
  refine j_sipush (x := nI 16000) (t := 10) C d_M_mayMeet_7 rfl rfl ?_
  refine j_iload_n (i := 1) (t := 11) C d_M_mayMeet_10 rfl rfl rfl ?_
  refine j_iadd (t := 12) C d_M_mayMeet_11 rfl ?_
  refine j_sipush (x := nI 16016) (t := 15) C d_M_mayMeet_12 rfl rfl ?_
  refine j_iload_n (i := 3) (t := 16) C d_M_mayMeet_15 rfl rfl rfl ?_
  refine j_iadd (t := 17) C d_M_mayMeet_16 rfl ?_
  rw [nI_add, nI_add]
  refine j_callV (As := [_, _, _]) (t := 20) C (c_M_cmp _ o q m (g_ty s c) (16000 + c) (16016 + d) (p.1) (p2.2)) d_M_mayMeet_17 jb_M_compare ml_M_116 jv_M_compare hM.1 rfl rfl rfl (Nat.le_of_ble_eq_true rfl) (by decide) (by omega) (by omega) (⟨rfl, hM, hlo, hhi2⟩) rfl (fun r17 w17 p17 => ?_)
  obtain ⟨rfl, z17, rfl, s17⟩ := p17
  dsimp only [jst]
  refine j_istore (i := 4) (t := 22) (lv' := [(0, _), (1, _), (2, _), (3, _), (4, _)]) C d_M_mayMeet_20 (by decide) (by decide) rfl rfl ?_
  refine j_aload_n (i := 0) (t := 23) C d_M_mayMeet_22 rfl rfl (by first | exact jrv_r | exact jrv_n | exact jrv_f) rfl ?_
  refine j_aload_n (i := 0) (t := 24) C d_M_mayMeet_23 rfl rfl (by first | exact jrv_r | exact jrv_n | exact jrv_f) rfl ?_
  refine j_get (t := 27) C fl_M_27 d_M_mayMeet_24 hM.1 rfl rfl ?_
  refine j_iload_n (i := 1) (t := 28) C d_M_mayMeet_27 rfl rfl rfl ?_
  refine j_ld_ty (i := c) (t := 29) C d_M_mayMeet_28 hM (by first | rfl | simp only [nI_add, nI_mul, nI_1]) (by omega) (hty) rfl ?_
  refine j_sipush (x := nI 16016) (t := 32) C d_M_mayMeet_29 rfl rfl ?_
  refine j_iload_n (i := 1) (t := 33) C d_M_mayMeet_32 rfl rfl rfl ?_
  refine j_iadd (t := 34) C d_M_mayMeet_33 rfl ?_
  refine j_sipush (x := nI 16000) (t := 37) C d_M_mayMeet_34 rfl rfl ?_
  refine j_iload_n (i := 3) (t := 38) C d_M_mayMeet_37 rfl rfl rfl ?_
  refine j_iadd (t := 39) C d_M_mayMeet_38 rfl ?_
  rw [nI_add, nI_add]
  refine j_callV (As := [_, _, _]) (t := 42) C (c_M_cmp _ o q m (g_ty s c) (16016 + c) (16000 + d) (p.2) (p2.1)) d_M_mayMeet_39 jb_M_compare ml_M_116 jv_M_compare hM.1 rfl rfl rfl (Nat.le_of_ble_eq_true rfl) (by decide) (by omega) (by omega) (⟨rfl, hM, hhi, hlo2⟩) rfl (fun r39 w39 p39 => ?_)
  obtain ⟨rfl, z39, rfl, s39⟩ := p39
  dsimp only [jst]
  refine j_istore (i := 5) (t := 44) (lv' := [(0, _), (1, _), (2, _), (3, _), (4, _), (5, _)]) C d_M_mayMeet_42 (by decide) (by decide) rfl rfl ?_
  refine j_iload_n (i := 2) (t := 45) C d_M_mayMeet_44 rfl rfl rfl ?_
  refine j_if_ne (tgt := 64) (t := 48) C d_M_mayMeet_45 (by decide) rfl (fun h45 => ?_) (fun h45 => ?_)
  · refine j_iload_n (i := 2) (t := 65) C d_M_mayMeet_64 rfl rfl rfl ?_
    refine j_iconst (x := 1) (t := 66) C d_M_mayMeet_65 rfl rfl ?_
    refine j_icmp_ne (tgt := 87) (t := 69) C d_M_mayMeet_66 (by decide) rfl (fun h66 => ?_) (fun h66 => ?_)
    · refine j_iload_n (i := 2) (t := 88) C d_M_mayMeet_87 rfl rfl rfl ?_
      refine j_iload_n (i := 2) (t := 89) C d_M_mayMeet_88 rfl rfl rfl ?_
      refine j_iconst (x := 4) (t := 90) C d_M_mayMeet_89 rfl rfl ?_
      refine j_icmp_ge (tgt := 98) (t := 93) C d_M_mayMeet_90 (by decide) rfl (fun h90 => ?_) (fun h90 => ?_)
      · refine j_iload (t := 100) C d_M_mayMeet_98 rfl rfl ?_
        refine j_callS (As := [_, _]) (t := 103) C (c_M_holds _ op _) d_M_mayMeet_100 jb_M_holds ml_M_120 st_M_holds rfl (Nat.le_of_ble_eq_true rfl) (by decide) (by omega) (by omega) (rfl) rfl (fun r100 w100 p100 => ?_)
        obtain ⟨rfl, rfl⟩ := p100
        dsimp only [jst]
        exact j_iret C d_M_mayMeet_103 (by first | rfl | exact nar_b) (⟨rfl, by rw [cH_of ho1 ho5 s17 s39, if_neg h45]; first | (rw [if_pos h66]; first | rw [fin_o1 h71] | rw [fin_o2 h76] | rw [fin_o3 h71 h76]) | (rw [if_neg h66]; first | rw [if_pos h90] | rw [if_neg h90])⟩) (by omega) (by omega)
      · refine j_iload (t := 95) C d_M_mayMeet_93 rfl rfl ?_
        refine j_goto (tgt := 100) C d_M_mayMeet_95 (by decide) ?_
        refine j_callS (As := [_, _]) (t := 103) C (c_M_holds _ op _) d_M_mayMeet_100 jb_M_holds ml_M_120 st_M_holds rfl (Nat.le_of_ble_eq_true rfl) (by decide) (by omega) (by omega) (rfl) rfl (fun r100 w100 p100 => ?_)
        obtain ⟨rfl, rfl⟩ := p100
        dsimp only [jst]
        exact j_iret C d_M_mayMeet_103 (by first | rfl | exact nar_b) (⟨rfl, by rw [cH_of ho1 ho5 s17 s39, if_neg h45]; first | (rw [if_pos h66]; first | rw [fin_o1 h71] | rw [fin_o2 h76] | rw [fin_o3 h71 h76]) | (rw [if_neg h66]; first | rw [if_pos h90] | rw [if_neg h90])⟩) (by omega) (by omega)
    · refine j_iload (t := 71) C d_M_mayMeet_69 rfl rfl ?_
      refine j_if_ne (tgt := 79) (t := 74) C d_M_mayMeet_71 (by decide) rfl (fun h71 => ?_) (fun h71 => ?_)
      · refine j_iconst (x := 1) (t := 80) C d_M_mayMeet_79 rfl rfl ?_
        refine j_goto (tgt := 103) C d_M_mayMeet_80 (by decide) ?_
        exact j_iret C d_M_mayMeet_103 (by first | rfl | exact nar_b) (⟨rfl, by rw [cH_of ho1 ho5 s17 s39, if_neg h45]; first | (rw [if_pos h66]; first | rw [fin_o1 h71] | rw [fin_o2 h76] | rw [fin_o3 h71 h76]) | (rw [if_neg h66]; first | rw [if_pos h90] | rw [if_neg h90])⟩) (by omega) (by omega)
      · refine j_iload (t := 76) C d_M_mayMeet_74 rfl rfl ?_
        refine j_if_eq (tgt := 83) (t := 79) C d_M_mayMeet_76 (by decide) rfl (fun h76 => ?_) (fun h76 => ?_)
        · refine j_iconst (x := 0) (t := 84) C d_M_mayMeet_83 rfl rfl ?_
          refine j_goto (tgt := 103) C d_M_mayMeet_84 (by decide) ?_
          exact j_iret C d_M_mayMeet_103 (by first | rfl | exact nar_b) (⟨rfl, by rw [cH_of ho1 ho5 s17 s39, if_neg h45]; first | (rw [if_pos h66]; first | rw [fin_o1 h71] | rw [fin_o2 h76] | rw [fin_o3 h71 h76]) | (rw [if_neg h66]; first | rw [if_pos h90] | rw [if_neg h90])⟩) (by omega) (by omega)
        · refine j_iconst (x := 1) (t := 80) C d_M_mayMeet_79 rfl rfl ?_
          refine j_goto (tgt := 103) C d_M_mayMeet_80 (by decide) ?_
          exact j_iret C d_M_mayMeet_103 (by first | rfl | exact nar_b) (⟨rfl, by rw [cH_of ho1 ho5 s17 s39, if_neg h45]; first | (rw [if_pos h66]; first | rw [fin_o1 h71] | rw [fin_o2 h76] | rw [fin_o3 h71 h76]) | (rw [if_neg h66]; first | rw [if_pos h90] | rw [if_neg h90])⟩) (by omega) (by omega)
  · refine j_iload (t := 50) C d_M_mayMeet_48 rfl rfl ?_
    refine j_if_gt (tgt := 62) (t := 53) C d_M_mayMeet_50 (by decide) rfl (fun h50 => ?_) (fun h50 => ?_)
    · refine j_iconst (x := 0) (t := 63) C d_M_mayMeet_62 rfl rfl ?_
      exact j_iret C d_M_mayMeet_63 (by first | rfl | exact nar_b) (⟨rfl, by rw [cH_of ho1 ho5 s17 s39, if_pos h45]; first | rw [fin_a1 h50 h55] | rw [fin_a2 h50] | rw [fin_a3 h55]⟩) (by omega) (by omega)
    · refine j_iload (t := 55) C d_M_mayMeet_53 rfl rfl ?_
      refine j_if_lt (tgt := 62) (t := 58) C d_M_mayMeet_55 (by decide) rfl (fun h55 => ?_) (fun h55 => ?_)
      · refine j_iconst (x := 0) (t := 63) C d_M_mayMeet_62 rfl rfl ?_
        exact j_iret C d_M_mayMeet_63 (by first | rfl | exact nar_b) (⟨rfl, by rw [cH_of ho1 ho5 s17 s39, if_pos h45]; first | rw [fin_a1 h50 h55] | rw [fin_a2 h50] | rw [fin_a3 h55]⟩) (by omega) (by omega)
      · refine j_iconst (x := 1) (t := 59) C d_M_mayMeet_58 rfl rfl ?_
        refine j_goto (tgt := 63) C d_M_mayMeet_59 (by decide) ?_
        exact j_iret C d_M_mayMeet_63 (by first | rfl | exact nar_b) (⟨rfl, by rw [cH_of ho1 ho5 s17 s39, if_pos h45]; first | rw [fin_a1 h50 h55] | rw [fin_a2 h50] | rw [fin_a3 h55]⟩) (by omega) (by omega)

set_option maxHeartbeats 4000000 in
set_option maxRecDepth 100000 in
/-- mayBeNone -/
theorem c_M_mayBeNone (l : Launch) (o : Nat) (q : Nat → Nat) (m : jM) (s : jS) (k : Nat) (p : jv × jv) : MC l y_M_mayBeNone b_M_mayBeNone 5 (some .boolean) 2 0 0
    (fun G w av => (av = [.ref o, .int (nI k)] ∧ MH G w o q m ∧ relM s m ∧ WF s) ∧ k < g_sn s ∧ g_sk s k = 2 ∧ g_kn s (g_sc s k) = true ∧ g_mo s (g_sc s k) = some p)
    (fun G w av r w' => w' = w ∧ r = some (.int (bI (outK (g_lit s) (oP s k) (oM s k) p.1 p.2 (g_ec s (g_sc s k)) (g_ef s (g_sc s k)))))) := by
  refine MC.of 99 (by decide) ?_
  intro X w av hl C hnm hp
  obtain ⟨hp, hk, hk2, hkn, hmo⟩ := hp
  obtain ⟨rfl, hM, hR, hW⟩ := hp
  obtain ⟨⟨r_tn, r_tp⟩, ⟨r_cc, r_ln, r_sn, r_zn⟩, r_col, r_new, r_sz, r_lit, r_st, r_zt⟩ := id hR
  obtain ⟨wtn, wtp, wcc, wln, wsn, wzn, wcol, wlit, wst, wzt⟩ := id hW
  have hsc := (st_2 hW hk hk2).1
  have hk5 : g_sk s k < 5 := by rw [hk2]; decide
  have hec := ((r_col _ hsc).2.2.2.2.2 hkn).2.2.2.1
  have hecl := ((wcol _ hsc).2.2.2.2 hkn).2.2.2.2.1
  have hty := (r_col _ hsc).1
  obtain ⟨hlo, hhi⟩ := lo_ok hR hW hsc hkn hmo
  refine ⟨[(0, _), (1, _)], rfl, Nat.le_of_ble_eq_true rfl, rfl, ?_⟩
  have loop : 0 < g_ec s (g_sc s k) → ∀ (qq n : Nat) (b : Bool), g_ec s (g_sc s k) + 1 ≤ n + qq → n ≤ g_ec s (g_sc s k) → b = outE (g_lit s) (oP s k) (oM s k) (g_ef s (g_sc s k)) n → J X (5, 99) (jQ X (fun r w' => w' = w ∧ r = some (.int (bI (outK (g_lit s) (oP s k) (oM s k) p.1 p.2 (g_ec s (g_sc s k)) (g_ef s (g_sc s k)))))) 0 0) w 0 0 61 [(0, .ref o), (1, .int (nI k)), (2, .int (nI (g_sc s k))), (3, .int (bI b)), (4, .int (nI n))] [] := by
    intro hpos qq
    induction qq with
    | zero => intro n b h1 h2; omega
    | succ qq ih =>
      intro n b hn1 hn2 hb
      refine j_iload (t := 63) C d_M_mayBeNone_61 rfl rfl ?_
      refine j_aload_n (i := 0) (t := 64) C d_M_mayBeNone_63 rfl rfl (by first | exact jrv_r | exact jrv_n | exact jrv_f) rfl ?_
      refine j_get (t := 67) C fl_M_42 d_M_mayBeNone_64 hM.1 rfl rfl ?_
      refine j_iload_n (i := 2) (t := 68) C d_M_mayBeNone_67 rfl rfl rfl ?_
      refine j_ld_wd (i := g_sc s k) (t := 69) C d_M_mayBeNone_68 hM (by first | rfl | simp only [nI_add, nI_mul, nI_1]) (by omega) (hec) rfl ?_
      refine j_icmp_ge (tgt := 107) (t := 72) C d_M_mayBeNone_69 (by decide) rfl (fun h69 => ?_) (fun h69 => ?_)
      · refine j_iload_n (i := 3) (t := 108) C d_M_mayBeNone_107 rfl rfl rfl ?_
        exact j_iret C d_M_mayBeNone_108 (by first | rfl | exact nar_b) (⟨rfl, by rw [nI_leI (by omega) (by omega)] at h69; rw [outK_e hpos, hb, show n = g_ec s (g_sc s k) by omega]⟩) (by omega) (by omega)
      · rw [nI_leI (by omega) (by omega)] at h69
        refine j_iload_n (i := 3) (t := 73) C d_M_mayBeNone_72 rfl rfl rfl ?_
        refine j_if_ne (tgt := 95) (t := 76) C d_M_mayBeNone_73 (by decide) rfl (fun h73 => ?_) (fun h73 => ?_)
        · refine j_iconst (x := 1) (t := 96) C d_M_mayBeNone_95 rfl rfl ?_
          refine j_goto (tgt := 100) C d_M_mayBeNone_96 (by decide) ?_
          refine j_istore_n (i := 3) (t := 101) (lv' := [(0, _), (1, _), (2, _), (3, _), (4, _)]) C d_M_mayBeNone_100 rfl (by decide) (by decide) rfl rfl ?_
          refine j_iinc (y := _ + 1) (t := 104) (lv' := [(0, _), (1, _), (2, _), (3, _), (4, _)]) C d_M_mayBeNone_101 rfl rfl (by decide) (by decide) rfl rfl ?_
          refine j_goto (tgt := 61) C d_M_mayBeNone_104 (by decide) ?_
          rw [nI_1]
          first
          | (rw [bI_0, Bool.not_eq_false] at h73; exact ih (n + 1) true (by omega) (by omega) (outE_0 (hb.symm.trans h73)).symm)
          | (rw [bI_0] at h92; exact ih (n + 1) true (by omega) (by omega) (outE_true (i := n) (by omega) h92).symm)
          | (rw [bI_0] at h73; rw [bI_0, Bool.not_eq_false] at h92; exact ih (n + 1) false (by omega) (by omega) (outE_next (hb.symm.trans h73) h92).symm)
        · refine j_aload_n (i := 0) (t := 77) C d_M_mayBeNone_76 rfl rfl (by first | exact jrv_r | exact jrv_n | exact jrv_f) rfl ?_
          refine j_iload_n (i := 1) (t := 78) C d_M_mayBeNone_77 rfl rfl rfl ?_
          refine j_sipush (x := nI 16032) (t := 81) C d_M_mayBeNone_78 rfl rfl ?_
          refine j_bipush (x := nI 100) (t := 83) C d_M_mayBeNone_81 rfl rfl ?_
          refine j_iload_n (i := 2) (t := 84) C d_M_mayBeNone_83 rfl rfl rfl ?_
          refine j_imul (t := 85) C d_M_mayBeNone_84 rfl ?_
          refine j_iadd (t := 86) C d_M_mayBeNone_85 rfl ?_
          refine j_iload (t := 88) C d_M_mayBeNone_86 rfl rfl ?_
          refine j_iadd (t := 89) C d_M_mayBeNone_88 rfl ?_
          rw [nI_mul, nI_add, nI_add]
          refine j_callV (As := [_, _]) (t := 92) C (c_M_isIn _ o q m s k (16032 + 100 * g_sc s k + n) (g_ef s (g_sc s k) n)) d_M_mayBeNone_89 jb_M_isIn ml_M_160 jv_M_isIn hM.1 rfl rfl rfl (Nat.le_of_ble_eq_true rfl) (by decide) (by omega) (by omega) (⟨⟨rfl, hM, hR, hW⟩, hk, hk2, word_ok hR hW hsc hkn (by omega)⟩) rfl (fun r89 w89 p89 => ?_)
          obtain ⟨rfl, rfl⟩ := p89
          dsimp only [jst]
          refine j_if_ne (tgt := 99) (t := 95) C d_M_mayBeNone_92 (by decide) rfl (fun h92 => ?_) (fun h92 => ?_)
          · refine j_iconst (x := 0) (t := 100) C d_M_mayBeNone_99 rfl rfl ?_
            refine j_istore_n (i := 3) (t := 101) (lv' := [(0, _), (1, _), (2, _), (3, _), (4, _)]) C d_M_mayBeNone_100 rfl (by decide) (by decide) rfl rfl ?_
            refine j_iinc (y := _ + 1) (t := 104) (lv' := [(0, _), (1, _), (2, _), (3, _), (4, _)]) C d_M_mayBeNone_101 rfl rfl (by decide) (by decide) rfl rfl ?_
            refine j_goto (tgt := 61) C d_M_mayBeNone_104 (by decide) ?_
            rw [nI_1]
            first
            | (rw [bI_0, Bool.not_eq_false] at h73; exact ih (n + 1) true (by omega) (by omega) (outE_0 (hb.symm.trans h73)).symm)
            | (rw [bI_0] at h92; exact ih (n + 1) true (by omega) (by omega) (outE_true (i := n) (by omega) h92).symm)
            | (rw [bI_0] at h73; rw [bI_0, Bool.not_eq_false] at h92; exact ih (n + 1) false (by omega) (by omega) (outE_next (hb.symm.trans h73) h92).symm)
          · refine j_iconst (x := 1) (t := 96) C d_M_mayBeNone_95 rfl rfl ?_
            refine j_goto (tgt := 100) C d_M_mayBeNone_96 (by decide) ?_
            refine j_istore_n (i := 3) (t := 101) (lv' := [(0, _), (1, _), (2, _), (3, _), (4, _)]) C d_M_mayBeNone_100 rfl (by decide) (by decide) rfl rfl ?_
            refine j_iinc (y := _ + 1) (t := 104) (lv' := [(0, _), (1, _), (2, _), (3, _), (4, _)]) C d_M_mayBeNone_101 rfl rfl (by decide) (by decide) rfl rfl ?_
            refine j_goto (tgt := 61) C d_M_mayBeNone_104 (by decide) ?_
            rw [nI_1]
            first
            | (rw [bI_0, Bool.not_eq_false] at h73; exact ih (n + 1) true (by omega) (by omega) (outE_0 (hb.symm.trans h73)).symm)
            | (rw [bI_0] at h92; exact ih (n + 1) true (by omega) (by omega) (outE_true (i := n) (by omega) h92).symm)
            | (rw [bI_0] at h73; rw [bI_0, Bool.not_eq_false] at h92; exact ih (n + 1) false (by omega) (by omega) (outE_next (hb.symm.trans h73) h92).symm)
  by_cases hz : g_ec s (g_sc s k) = 0
  · have hec0 : mg_wd m (g_sc s k) = 0 := by rw [hec, hz]; rfl
    refine j_aload_n (i := 0) (t := 1) C d_M_mayBeNone_0 rfl rfl (by first | exact jrv_r | exact jrv_n | exact jrv_f) rfl ?_
    refine j_get (t := 4) C fl_M_61 d_M_mayBeNone_1 hM.1 rfl rfl ?_
    refine j_iload_n (i := 1) (t := 5) C d_M_mayBeNone_4 rfl rfl rfl ?_
    refine j_ld_fi (i := k) (t := 6) C d_M_mayBeNone_5 hM (by first | rfl | simp only [nI_add, nI_mul, nI_1]) (by omega) ((r_st k hk).2.1 hk5) rfl ?_
    refine j_istore_n (i := 2) (t := 7) (lv' := [(0, _), (1, _), (2, _)]) C d_M_mayBeNone_6 rfl (by decide) (by decide) rfl rfl ?_
    refine j_aload_n (i := 0) (t := 8) C d_M_mayBeNone_7 rfl rfl (by first | exact jrv_r | exact jrv_n | exact jrv_f) rfl ?_
    refine j_get (t := 11) C fl_M_42 d_M_mayBeNone_8 hM.1 rfl rfl ?_
    refine j_iload_n (i := 2) (t := 12) C d_M_mayBeNone_11 rfl rfl rfl ?_
    refine j_ld_wd (i := g_sc s k) (t := 13) C d_M_mayBeNone_12 hM (by first | rfl | simp only [nI_add, nI_mul, nI_1]) (by omega) (hec0) rfl ?_
    refine j_if_ne (tgt := 56) (t := 16) C d_M_mayBeNone_13 (by decide) rfl (fun h13 => absurd h13 (by decide)) (fun h13 => ?_)
    refine j_aload_n (i := 0) (t := 17) C d_M_mayBeNone_16 rfl rfl (by first | exact jrv_r | exact jrv_n | exact jrv_f) rfl ?_
    refine j_aload_n (i := 0) (t := 18) C d_M_mayBeNone_17 rfl rfl (by first | exact jrv_r | exact jrv_n | exact jrv_f) rfl ?_
    refine j_get (t := 21) C fl_M_27 d_M_mayBeNone_18 hM.1 rfl rfl ?_
    refine j_iload_n (i := 2) (t := 22) C d_M_mayBeNone_21 rfl rfl rfl ?_
    refine j_ld_ty (i := g_sc s k) (t := 23) C d_M_mayBeNone_22 hM (by first | rfl | simp only [nI_add, nI_mul, nI_1]) (by omega) (hty) rfl ?_
    refine j_sipush (x := nI 16000) (t := 26) C d_M_mayBeNone_23 rfl rfl ?_
    refine j_iload_n (i := 2) (t := 27) C d_M_mayBeNone_26 rfl rfl rfl ?_
    refine j_iadd (t := 28) C d_M_mayBeNone_27 rfl ?_
    refine j_sipush (x := nI 16016) (t := 31) C d_M_mayBeNone_28 rfl rfl ?_
    refine j_iload_n (i := 2) (t := 32) C d_M_mayBeNone_31 rfl rfl rfl ?_
    refine j_iadd (t := 33) C d_M_mayBeNone_32 rfl ?_
    rw [nI_add, nI_add]
    refine j_callV (As := [_, _, _]) (t := 36) C (c_M_cmp _ o q m (g_ty s (g_sc s k)) (16000 + g_sc s k) (16016 + g_sc s k) (p.1) (p.2)) d_M_mayBeNone_33 jb_M_compare ml_M_116 jv_M_compare hM.1 rfl rfl rfl (Nat.le_of_ble_eq_true rfl) (by decide) (by omega) (by omega) (⟨rfl, hM, hlo, hhi⟩) rfl (fun r33 w33 p33 => ?_)
    obtain ⟨rfl, z33, rfl, s33⟩ := p33
    dsimp only [jst]
    refine j_if_ne (tgt := 52) (t := 39) C d_M_mayBeNone_36 (by decide) rfl (fun h36 => ?_) (fun h36 => ?_)
    · refine j_iconst (x := 1) (t := 53) C d_M_mayBeNone_52 rfl rfl ?_
      refine j_goto (tgt := 57) C d_M_mayBeNone_53 (by decide) ?_
      refine j_istore_n (i := 3) (t := 58) (lv' := [(0, _), (1, _), (2, _), (3, _)]) C d_M_mayBeNone_57 rfl (by decide) (by decide) rfl rfl ?_
      refine j_iconst (x := 0) (t := 59) C d_M_mayBeNone_58 rfl rfl ?_
      refine j_istore (i := 4) (t := 61) (lv' := [(0, _), (1, _), (2, _), (3, _), (4, _)]) C d_M_mayBeNone_59 (by decide) (by decide) rfl rfl ?_
      refine j_iload (t := 63) C d_M_mayBeNone_61 rfl rfl ?_
      refine j_aload_n (i := 0) (t := 64) C d_M_mayBeNone_63 rfl rfl (by first | exact jrv_r | exact jrv_n | exact jrv_f) rfl ?_
      refine j_get (t := 67) C fl_M_42 d_M_mayBeNone_64 hM.1 rfl rfl ?_
      refine j_iload_n (i := 2) (t := 68) C d_M_mayBeNone_67 rfl rfl rfl ?_
      refine j_ld_wd (i := g_sc s k) (t := 69) C d_M_mayBeNone_68 hM (by first | rfl | simp only [nI_add, nI_mul, nI_1]) (by omega) (hec0) rfl ?_
      refine j_icmp_ge (tgt := 107) (t := 72) C d_M_mayBeNone_69 (by decide) rfl (fun h69 => ?_) (fun h69 => absurd h69 (by decide))
      refine j_iload_n (i := 3) (t := 108) C d_M_mayBeNone_107 rfl rfl rfl ?_
      exact j_iret C d_M_mayBeNone_108 (by first | rfl | exact nar_b) (⟨rfl, by rw [outK_0 hz]; simp only [← s33.1.2]; first | (simp [h36, bI]; done) | (rw [bI_0] at h49; simp [h49, bI]; done) | (rw [bI_0, Bool.not_eq_false] at h49; simp [h36, h49, bI])⟩) (by omega) (by omega)
    · refine j_aload_n (i := 0) (t := 40) C d_M_mayBeNone_39 rfl rfl (by first | exact jrv_r | exact jrv_n | exact jrv_f) rfl ?_
      refine j_iload_n (i := 1) (t := 41) C d_M_mayBeNone_40 rfl rfl rfl ?_
      refine j_sipush (x := nI 16000) (t := 44) C d_M_mayBeNone_41 rfl rfl ?_
      refine j_iload_n (i := 2) (t := 45) C d_M_mayBeNone_44 rfl rfl rfl ?_
      refine j_iadd (t := 46) C d_M_mayBeNone_45 rfl ?_
      rw [nI_add]
      refine j_callV (As := [_, _]) (t := 49) C (c_M_isIn _ o q m s k (16000 + g_sc s k) p.1) d_M_mayBeNone_46 jb_M_isIn ml_M_160 jv_M_isIn hM.1 rfl rfl rfl (Nat.le_of_ble_eq_true rfl) (by decide) (by omega) (by omega) (⟨⟨rfl, hM, hR, hW⟩, hk, hk2, hlo⟩) rfl (fun r46 w46 p46 => ?_)
      obtain ⟨rfl, rfl⟩ := p46
      dsimp only [jst]
      refine j_if_ne (tgt := 56) (t := 52) C d_M_mayBeNone_49 (by decide) rfl (fun h49 => ?_) (fun h49 => ?_)
      · refine j_iconst (x := 0) (t := 57) C d_M_mayBeNone_56 rfl rfl ?_
        refine j_istore_n (i := 3) (t := 58) (lv' := [(0, _), (1, _), (2, _), (3, _)]) C d_M_mayBeNone_57 rfl (by decide) (by decide) rfl rfl ?_
        refine j_iconst (x := 0) (t := 59) C d_M_mayBeNone_58 rfl rfl ?_
        refine j_istore (i := 4) (t := 61) (lv' := [(0, _), (1, _), (2, _), (3, _), (4, _)]) C d_M_mayBeNone_59 (by decide) (by decide) rfl rfl ?_
        refine j_iload (t := 63) C d_M_mayBeNone_61 rfl rfl ?_
        refine j_aload_n (i := 0) (t := 64) C d_M_mayBeNone_63 rfl rfl (by first | exact jrv_r | exact jrv_n | exact jrv_f) rfl ?_
        refine j_get (t := 67) C fl_M_42 d_M_mayBeNone_64 hM.1 rfl rfl ?_
        refine j_iload_n (i := 2) (t := 68) C d_M_mayBeNone_67 rfl rfl rfl ?_
        refine j_ld_wd (i := g_sc s k) (t := 69) C d_M_mayBeNone_68 hM (by first | rfl | simp only [nI_add, nI_mul, nI_1]) (by omega) (hec0) rfl ?_
        refine j_icmp_ge (tgt := 107) (t := 72) C d_M_mayBeNone_69 (by decide) rfl (fun h69 => ?_) (fun h69 => absurd h69 (by decide))
        refine j_iload_n (i := 3) (t := 108) C d_M_mayBeNone_107 rfl rfl rfl ?_
        exact j_iret C d_M_mayBeNone_108 (by first | rfl | exact nar_b) (⟨rfl, by rw [outK_0 hz]; simp only [← s33.1.2]; first | (simp [h36, bI]; done) | (rw [bI_0] at h49; simp [h49, bI]; done) | (rw [bI_0, Bool.not_eq_false] at h49; simp [h36, h49, bI])⟩) (by omega) (by omega)
      · refine j_iconst (x := 1) (t := 53) C d_M_mayBeNone_52 rfl rfl ?_
        refine j_goto (tgt := 57) C d_M_mayBeNone_53 (by decide) ?_
        refine j_istore_n (i := 3) (t := 58) (lv' := [(0, _), (1, _), (2, _), (3, _)]) C d_M_mayBeNone_57 rfl (by decide) (by decide) rfl rfl ?_
        refine j_iconst (x := 0) (t := 59) C d_M_mayBeNone_58 rfl rfl ?_
        refine j_istore (i := 4) (t := 61) (lv' := [(0, _), (1, _), (2, _), (3, _), (4, _)]) C d_M_mayBeNone_59 (by decide) (by decide) rfl rfl ?_
        refine j_iload (t := 63) C d_M_mayBeNone_61 rfl rfl ?_
        refine j_aload_n (i := 0) (t := 64) C d_M_mayBeNone_63 rfl rfl (by first | exact jrv_r | exact jrv_n | exact jrv_f) rfl ?_
        refine j_get (t := 67) C fl_M_42 d_M_mayBeNone_64 hM.1 rfl rfl ?_
        refine j_iload_n (i := 2) (t := 68) C d_M_mayBeNone_67 rfl rfl rfl ?_
        refine j_ld_wd (i := g_sc s k) (t := 69) C d_M_mayBeNone_68 hM (by first | rfl | simp only [nI_add, nI_mul, nI_1]) (by omega) (hec0) rfl ?_
        refine j_icmp_ge (tgt := 107) (t := 72) C d_M_mayBeNone_69 (by decide) rfl (fun h69 => ?_) (fun h69 => absurd h69 (by decide))
        refine j_iload_n (i := 3) (t := 108) C d_M_mayBeNone_107 rfl rfl rfl ?_
        exact j_iret C d_M_mayBeNone_108 (by first | rfl | exact nar_b) (⟨rfl, by rw [outK_0 hz]; simp only [← s33.1.2]; first | (simp [h36, bI]; done) | (rw [bI_0] at h49; simp [h49, bI]; done) | (rw [bI_0, Bool.not_eq_false] at h49; simp [h36, h49, bI])⟩) (by omega) (by omega)
  · have hpos : 0 < g_ec s (g_sc s k) := Nat.pos_of_ne_zero hz
    refine j_aload_n (i := 0) (t := 1) C d_M_mayBeNone_0 rfl rfl (by first | exact jrv_r | exact jrv_n | exact jrv_f) rfl ?_
    refine j_get (t := 4) C fl_M_61 d_M_mayBeNone_1 hM.1 rfl rfl ?_
    refine j_iload_n (i := 1) (t := 5) C d_M_mayBeNone_4 rfl rfl rfl ?_
    refine j_ld_fi (i := k) (t := 6) C d_M_mayBeNone_5 hM (by first | rfl | simp only [nI_add, nI_mul, nI_1]) (by omega) ((r_st k hk).2.1 hk5) rfl ?_
    refine j_istore_n (i := 2) (t := 7) (lv' := [(0, _), (1, _), (2, _)]) C d_M_mayBeNone_6 rfl (by decide) (by decide) rfl rfl ?_
    refine j_aload_n (i := 0) (t := 8) C d_M_mayBeNone_7 rfl rfl (by first | exact jrv_r | exact jrv_n | exact jrv_f) rfl ?_
    refine j_get (t := 11) C fl_M_42 d_M_mayBeNone_8 hM.1 rfl rfl ?_
    refine j_iload_n (i := 2) (t := 12) C d_M_mayBeNone_11 rfl rfl rfl ?_
    refine j_ld_wd (i := g_sc s k) (t := 13) C d_M_mayBeNone_12 hM (by first | rfl | simp only [nI_add, nI_mul, nI_1]) (by omega) (hec) rfl ?_
    refine j_if_ne (tgt := 56) (t := 16) C d_M_mayBeNone_13 (by decide) rfl (fun h13 => ?_) (fun h13 => absurd h13 (nI_ne0 hpos (by omega)))
    refine j_iconst (x := 0) (t := 57) C d_M_mayBeNone_56 rfl rfl ?_
    refine j_istore_n (i := 3) (t := 58) (lv' := [(0, _), (1, _), (2, _), (3, _)]) C d_M_mayBeNone_57 rfl (by decide) (by decide) rfl rfl ?_
    refine j_iconst (x := 0) (t := 59) C d_M_mayBeNone_58 rfl rfl ?_
    refine j_istore (i := 4) (t := 61) (lv' := [(0, _), (1, _), (2, _), (3, _), (4, _)]) C d_M_mayBeNone_59 (by decide) (by decide) rfl rfl ?_
    exact loop hpos (g_ec s (g_sc s k) + 1) 0 false (by omega) (Nat.zero_le _) rfl

set_option maxHeartbeats 4000000 in
set_option maxRecDepth 100000 in
/-- most -/
theorem c_M_mostL (l : Launch) (o : Nat) (q : Nat → Nat) (m : jM) (s : jS) (c : Nat) : MC l y_M_most b_M_most 5 (some .int) 1 0 0
    (fun G w av => (av = [.ref o, .int (nI c), .int (-1)] ∧ MH G w o q m ∧ relM s m ∧ WF s) ∧ c < g_cc s)
    (fun G w av r w' => w' = w ∧ ((mnR (g_rf s c) (g_rc s c) = none ∧ r = some (.int (-1))) ∨ ∃ b x, b < g_rc s c ∧ g_rf s c b = some x ∧ mnR (g_rf s c) (g_rc s c) = some x ∧ r = some (.int (nI b)))) := by
  refine MC.of 99 (by decide) ?_
  intro X w av hl C hnm hp
  obtain ⟨hp, hc⟩ := hp
  obtain ⟨rfl, hM, hR, hW⟩ := hp
  obtain ⟨⟨r_tn, r_tp⟩, ⟨r_cc, r_ln, r_sn, r_zn⟩, r_col, r_new, r_sz, r_lit, r_st, r_zt⟩ := id hR
  obtain ⟨wtn, wtp, wcc, wln, wsn, wzn, wcol, wlit, wst, wzt⟩ := id hW
  have hcnt := (r_col c hc).2.1
  have hrc := (wcol c hc).2.1
  have hty := (r_col c hc).1
  refine ⟨[(0, _), (1, _), (2, _)], rfl, Nat.le_of_ble_eq_true rfl, rfl, ?_⟩
  have loop : ∀ (qq e : Nat) (v : Int32), g_rc s c + 1 ≤ e + qq → e ≤ g_rc s c → ((mnR (g_rf s c) e = none ∧ v = -1) ∨ ∃ b x, b < e ∧ g_rf s c b = some x ∧ mnR (g_rf s c) e = some x ∧ v = nI b) → J X (5, 99) (jQ X (fun r w' => w' = w ∧ ((mnR (g_rf s c) (g_rc s c) = none ∧ r = some (.int (-1))) ∨ ∃ b x, b < g_rc s c ∧ g_rf s c b = some x ∧ mnR (g_rf s c) (g_rc s c) = some x ∧ r = some (.int (nI b)))) 0 0) w 0 0 5 [(0, .ref o), (1, .int (nI c)), (2, .int (-1)), (3, .int v), (4, .int (nI e))] [] := by
    intro qq
    induction qq with
    | zero => intro e v h1 h2; omega
    | succ qq ih =>
      intro e v he1 he2 hinv
      rcases hinv with ⟨hv1, rfl⟩ | ⟨b, y, hb, hy, hv1, rfl⟩
      · refine j_iload (t := 7) C d_M_most_5 rfl rfl ?_
        refine j_aload_n (i := 0) (t := 8) C d_M_most_7 rfl rfl (by first | exact jrv_r | exact jrv_n | exact jrv_f) rfl ?_
        refine j_get (t := 11) C fl_M_30 d_M_most_8 hM.1 rfl rfl ?_
        refine j_iload_n (i := 1) (t := 12) C d_M_most_11 rfl rfl rfl ?_
        refine j_ld_cnt (i := c) (t := 13) C d_M_most_12 hM (by first | rfl | simp only [nI_add, nI_mul, nI_1]) (by omega) (hcnt) rfl ?_
        refine j_icmp_ge (tgt := 76) (t := 16) C d_M_most_13 (by decide) rfl (fun h13 => ?_) (fun h13 => ?_)
        · refine j_iload_n (i := 3) (t := 77) C d_M_most_76 rfl rfl rfl ?_
          exact j_iret C d_M_most_77 (by first | rfl | exact nar_b) (⟨rfl, Or.inl ⟨by rw [nI_leI (by omega) (by omega)] at h13; rw [← hv1, show g_rc s c = e by omega], rfl⟩⟩) (by omega) (by omega)
        · rw [nI_leI (by omega) (by omega)] at h13
          refine j_aload_n (i := 0) (t := 17) C d_M_most_16 rfl rfl (by first | exact jrv_r | exact jrv_n | exact jrv_f) rfl ?_
          refine j_get (t := 20) C fl_M_52 d_M_most_17 hM.1 rfl rfl ?_
          refine j_sipush (x := nI 1000) (t := 23) C d_M_most_20 rfl rfl ?_
          refine j_iload_n (i := 1) (t := 24) C d_M_most_23 rfl rfl rfl ?_
          refine j_imul (t := 25) C d_M_most_24 rfl ?_
          refine j_iload (t := 27) C d_M_most_25 rfl rfl ?_
          refine j_iadd (t := 28) C d_M_most_27 rfl ?_
          refine j_ld_has (i := 1000 * c + e) (t := 29) C d_M_most_28 hM (by first | rfl | simp only [nI_add, nI_mul, nI_1]) (by omega) (((r_col c hc).2.2.2.1 e (by omega)).1) rfl ?_
          refine j_if_eq (tgt := 70) (t := 32) C d_M_most_29 (by decide) rfl (fun h29 => ?_) (fun h29 => ?_)
          · refine j_iinc (y := _ + 1) (t := 73) (lv' := [(0, _), (1, _), (2, _), (3, _), (4, _)]) C d_M_most_70 rfl rfl (by decide) (by decide) rfl rfl ?_
            refine j_goto (tgt := 5) C d_M_most_73 (by decide) ?_
            rw [nI_1]
            first
            | exact ih (e + 1) _ (by omega) (by omega) (Or.inl ⟨(mnR_n (hs_none h29)).trans hv1, rfl⟩)
            | exact ih (e + 1) _ (by omega) (by omega) (Or.inr ⟨e, x, by omega, hx, mnR_a hx hv1, rfl⟩)
          · obtain ⟨x, hx⟩ := hs_some h29
            refine j_iload_n (i := 3) (t := 33) C d_M_most_32 rfl rfl rfl ?_
            refine j_iconst (x := (-1)) (t := 34) C d_M_most_33 rfl rfl ?_
            refine j_icmp_eq (tgt := 67) (t := 37) C d_M_most_34 (by decide) rfl (fun h34 => ?_) (fun h34 => absurd h34 (by decide))
            refine j_iload (t := 69) C d_M_most_67 rfl rfl ?_
            refine j_istore_n (i := 3) (t := 70) (lv' := [(0, _), (1, _), (2, _), (3, _), (4, _)]) C d_M_most_69 rfl (by decide) (by decide) rfl rfl ?_
            refine j_iinc (y := _ + 1) (t := 73) (lv' := [(0, _), (1, _), (2, _), (3, _), (4, _)]) C d_M_most_70 rfl rfl (by decide) (by decide) rfl rfl ?_
            refine j_goto (tgt := 5) C d_M_most_73 (by decide) ?_
            rw [nI_1]
            first
            | exact ih (e + 1) _ (by omega) (by omega) (Or.inl ⟨(mnR_n (hs_none h29)).trans hv1, rfl⟩)
            | exact ih (e + 1) _ (by omega) (by omega) (Or.inr ⟨e, x, by omega, hx, mnR_a hx hv1, rfl⟩)
      · refine j_iload (t := 7) C d_M_most_5 rfl rfl ?_
        refine j_aload_n (i := 0) (t := 8) C d_M_most_7 rfl rfl (by first | exact jrv_r | exact jrv_n | exact jrv_f) rfl ?_
        refine j_get (t := 11) C fl_M_30 d_M_most_8 hM.1 rfl rfl ?_
        refine j_iload_n (i := 1) (t := 12) C d_M_most_11 rfl rfl rfl ?_
        refine j_ld_cnt (i := c) (t := 13) C d_M_most_12 hM (by first | rfl | simp only [nI_add, nI_mul, nI_1]) (by omega) (hcnt) rfl ?_
        refine j_icmp_ge (tgt := 76) (t := 16) C d_M_most_13 (by decide) rfl (fun h13 => ?_) (fun h13 => ?_)
        · refine j_iload_n (i := 3) (t := 77) C d_M_most_76 rfl rfl rfl ?_
          exact j_iret C d_M_most_77 (by first | rfl | exact nar_b) (⟨rfl, Or.inr ⟨b, y, by omega, hy, by rw [nI_leI (by omega) (by omega)] at h13; rw [← hv1, show g_rc s c = e by omega], rfl⟩⟩) (by omega) (by omega)
        · rw [nI_leI (by omega) (by omega)] at h13
          refine j_aload_n (i := 0) (t := 17) C d_M_most_16 rfl rfl (by first | exact jrv_r | exact jrv_n | exact jrv_f) rfl ?_
          refine j_get (t := 20) C fl_M_52 d_M_most_17 hM.1 rfl rfl ?_
          refine j_sipush (x := nI 1000) (t := 23) C d_M_most_20 rfl rfl ?_
          refine j_iload_n (i := 1) (t := 24) C d_M_most_23 rfl rfl rfl ?_
          refine j_imul (t := 25) C d_M_most_24 rfl ?_
          refine j_iload (t := 27) C d_M_most_25 rfl rfl ?_
          refine j_iadd (t := 28) C d_M_most_27 rfl ?_
          refine j_ld_has (i := 1000 * c + e) (t := 29) C d_M_most_28 hM (by first | rfl | simp only [nI_add, nI_mul, nI_1]) (by omega) (((r_col c hc).2.2.2.1 e (by omega)).1) rfl ?_
          refine j_if_eq (tgt := 70) (t := 32) C d_M_most_29 (by decide) rfl (fun h29 => ?_) (fun h29 => ?_)
          · refine j_iinc (y := _ + 1) (t := 73) (lv' := [(0, _), (1, _), (2, _), (3, _), (4, _)]) C d_M_most_70 rfl rfl (by decide) (by decide) rfl rfl ?_
            refine j_goto (tgt := 5) C d_M_most_73 (by decide) ?_
            rw [nI_1]
            first
            | exact ih (e + 1) _ (by omega) (by omega) (Or.inr ⟨b, y, by omega, hy, (mnR_n (hs_none h29)).trans hv1, rfl⟩)
            | exact ih (e + 1) _ (by omega) (by omega) (Or.inr ⟨e, x, by omega, hx, mnR_b hx hv1 (Decidable.not_not.mp (fun z => h64 ((sgb_lo s60).mpr z))), rfl⟩)
            | exact ih (e + 1) _ (by omega) (by omega) (Or.inr ⟨b, y, by omega, hy, mnR_c hx hv1 ((sgb_lo s60).mp h64), rfl⟩)
          · obtain ⟨x, hx⟩ := hs_some h29
            refine j_iload_n (i := 3) (t := 33) C d_M_most_32 rfl rfl rfl ?_
            refine j_iconst (x := (-1)) (t := 34) C d_M_most_33 rfl rfl ?_
            refine j_icmp_eq (tgt := 67) (t := 37) C d_M_most_34 (by decide) rfl (fun h34 => absurd h34 (nI_m1 (by omega))) (fun h34 => ?_)
            refine j_iload_n (i := 2) (t := 38) C d_M_most_37 rfl rfl rfl ?_
            refine j_aload_n (i := 0) (t := 39) C d_M_most_38 rfl rfl (by first | exact jrv_r | exact jrv_n | exact jrv_f) rfl ?_
            refine j_aload_n (i := 0) (t := 40) C d_M_most_39 rfl rfl (by first | exact jrv_r | exact jrv_n | exact jrv_f) rfl ?_
            refine j_get (t := 43) C fl_M_27 d_M_most_40 hM.1 rfl rfl ?_
            refine j_iload_n (i := 1) (t := 44) C d_M_most_43 rfl rfl rfl ?_
            refine j_ld_ty (i := c) (t := 45) C d_M_most_44 hM (by first | rfl | simp only [nI_add, nI_mul, nI_1]) (by omega) (hty) rfl ?_
            refine j_sipush (x := nI 1000) (t := 48) C d_M_most_45 rfl rfl ?_
            refine j_iload_n (i := 1) (t := 49) C d_M_most_48 rfl rfl rfl ?_
            refine j_imul (t := 50) C d_M_most_49 rfl ?_
            refine j_iload (t := 52) C d_M_most_50 rfl rfl ?_
            refine j_iadd (t := 53) C d_M_most_52 rfl ?_
            refine j_sipush (x := nI 1000) (t := 56) C d_M_most_53 rfl rfl ?_
            refine j_iload_n (i := 1) (t := 57) C d_M_most_56 rfl rfl rfl ?_
            refine j_imul (t := 58) C d_M_most_57 rfl ?_
            refine j_iload_n (i := 3) (t := 59) C d_M_most_58 rfl rfl rfl ?_
            refine j_iadd (t := 60) C d_M_most_59 rfl ?_
            rw [nI_mul, nI_add, nI_add]
            refine j_callV (As := [_, _, _]) (t := 63) C (c_M_cmp _ o q m (g_ty s c) (1000 * c + e) (1000 * c + b) (x) (y)) d_M_most_60 jb_M_compare ml_M_116 jv_M_compare hM.1 rfl rfl rfl (Nat.le_of_ble_eq_true rfl) (by decide) (by omega) (by omega) (⟨rfl, hM, row_ok hR hW hc (by omega) hx, row_ok hR hW hc (by omega) hy⟩) rfl (fun r60 w60 p60 => ?_)
            obtain ⟨rfl, z60, rfl, s60⟩ := p60
            dsimp only [jst]
            refine j_imul (t := 64) C d_M_most_63 rfl ?_
            refine j_if_le (tgt := 70) (t := 67) C d_M_most_64 (by decide) rfl (fun h64 => ?_) (fun h64 => ?_)
            · refine j_iinc (y := _ + 1) (t := 73) (lv' := [(0, _), (1, _), (2, _), (3, _), (4, _)]) C d_M_most_70 rfl rfl (by decide) (by decide) rfl rfl ?_
              refine j_goto (tgt := 5) C d_M_most_73 (by decide) ?_
              rw [nI_1]
              first
              | exact ih (e + 1) _ (by omega) (by omega) (Or.inr ⟨b, y, by omega, hy, (mnR_n (hs_none h29)).trans hv1, rfl⟩)
              | exact ih (e + 1) _ (by omega) (by omega) (Or.inr ⟨e, x, by omega, hx, mnR_b hx hv1 (Decidable.not_not.mp (fun z => h64 ((sgb_lo s60).mpr z))), rfl⟩)
              | exact ih (e + 1) _ (by omega) (by omega) (Or.inr ⟨b, y, by omega, hy, mnR_c hx hv1 ((sgb_lo s60).mp h64), rfl⟩)
            · refine j_iload (t := 69) C d_M_most_67 rfl rfl ?_
              refine j_istore_n (i := 3) (t := 70) (lv' := [(0, _), (1, _), (2, _), (3, _), (4, _)]) C d_M_most_69 rfl (by decide) (by decide) rfl rfl ?_
              refine j_iinc (y := _ + 1) (t := 73) (lv' := [(0, _), (1, _), (2, _), (3, _), (4, _)]) C d_M_most_70 rfl rfl (by decide) (by decide) rfl rfl ?_
              refine j_goto (tgt := 5) C d_M_most_73 (by decide) ?_
              rw [nI_1]
              first
              | exact ih (e + 1) _ (by omega) (by omega) (Or.inr ⟨b, y, by omega, hy, (mnR_n (hs_none h29)).trans hv1, rfl⟩)
              | exact ih (e + 1) _ (by omega) (by omega) (Or.inr ⟨e, x, by omega, hx, mnR_b hx hv1 (Decidable.not_not.mp (fun z => h64 ((sgb_lo s60).mpr z))), rfl⟩)
              | exact ih (e + 1) _ (by omega) (by omega) (Or.inr ⟨b, y, by omega, hy, mnR_c hx hv1 ((sgb_lo s60).mp h64), rfl⟩)
  refine j_iconst (x := (-1)) (t := 1) C d_M_most_0 rfl rfl ?_
  refine j_istore_n (i := 3) (t := 2) (lv' := [(0, _), (1, _), (2, _), (3, _)]) C d_M_most_1 rfl (by decide) (by decide) rfl rfl ?_
  refine j_iconst (x := 0) (t := 3) C d_M_most_2 rfl rfl ?_
  refine j_istore (i := 4) (t := 5) (lv' := [(0, _), (1, _), (2, _), (3, _), (4, _)]) C d_M_most_3 (by decide) (by decide) rfl rfl ?_
  exact loop (g_rc s c + 1) 0 _ (by omega) (Nat.zero_le _) (Or.inl ⟨rfl, rfl⟩)

set_option maxHeartbeats 4000000 in
set_option maxRecDepth 100000 in
/-- most -/
theorem c_M_mostH (l : Launch) (o : Nat) (q : Nat → Nat) (m : jM) (s : jS) (c : Nat) : MC l y_M_most b_M_most 5 (some .int) 1 0 0
    (fun G w av => (av = [.ref o, .int (nI c), .int 1] ∧ MH G w o q m ∧ relM s m ∧ WF s) ∧ c < g_cc s)
    (fun G w av r w' => w' = w ∧ ((mxR (g_rf s c) (g_rc s c) = none ∧ r = some (.int (-1))) ∨ ∃ b x, b < g_rc s c ∧ g_rf s c b = some x ∧ mxR (g_rf s c) (g_rc s c) = some x ∧ r = some (.int (nI b)))) := by
  refine MC.of 99 (by decide) ?_
  intro X w av hl C hnm hp
  obtain ⟨hp, hc⟩ := hp
  obtain ⟨rfl, hM, hR, hW⟩ := hp
  obtain ⟨⟨r_tn, r_tp⟩, ⟨r_cc, r_ln, r_sn, r_zn⟩, r_col, r_new, r_sz, r_lit, r_st, r_zt⟩ := id hR
  obtain ⟨wtn, wtp, wcc, wln, wsn, wzn, wcol, wlit, wst, wzt⟩ := id hW
  have hcnt := (r_col c hc).2.1
  have hrc := (wcol c hc).2.1
  have hty := (r_col c hc).1
  refine ⟨[(0, _), (1, _), (2, _)], rfl, Nat.le_of_ble_eq_true rfl, rfl, ?_⟩
  have loop : ∀ (qq e : Nat) (v : Int32), g_rc s c + 1 ≤ e + qq → e ≤ g_rc s c → ((mxR (g_rf s c) e = none ∧ v = -1) ∨ ∃ b x, b < e ∧ g_rf s c b = some x ∧ mxR (g_rf s c) e = some x ∧ v = nI b) → J X (5, 99) (jQ X (fun r w' => w' = w ∧ ((mxR (g_rf s c) (g_rc s c) = none ∧ r = some (.int (-1))) ∨ ∃ b x, b < g_rc s c ∧ g_rf s c b = some x ∧ mxR (g_rf s c) (g_rc s c) = some x ∧ r = some (.int (nI b)))) 0 0) w 0 0 5 [(0, .ref o), (1, .int (nI c)), (2, .int 1), (3, .int v), (4, .int (nI e))] [] := by
    intro qq
    induction qq with
    | zero => intro e v h1 h2; omega
    | succ qq ih =>
      intro e v he1 he2 hinv
      rcases hinv with ⟨hv1, rfl⟩ | ⟨b, y, hb, hy, hv1, rfl⟩
      · refine j_iload (t := 7) C d_M_most_5 rfl rfl ?_
        refine j_aload_n (i := 0) (t := 8) C d_M_most_7 rfl rfl (by first | exact jrv_r | exact jrv_n | exact jrv_f) rfl ?_
        refine j_get (t := 11) C fl_M_30 d_M_most_8 hM.1 rfl rfl ?_
        refine j_iload_n (i := 1) (t := 12) C d_M_most_11 rfl rfl rfl ?_
        refine j_ld_cnt (i := c) (t := 13) C d_M_most_12 hM (by first | rfl | simp only [nI_add, nI_mul, nI_1]) (by omega) (hcnt) rfl ?_
        refine j_icmp_ge (tgt := 76) (t := 16) C d_M_most_13 (by decide) rfl (fun h13 => ?_) (fun h13 => ?_)
        · refine j_iload_n (i := 3) (t := 77) C d_M_most_76 rfl rfl rfl ?_
          exact j_iret C d_M_most_77 (by first | rfl | exact nar_b) (⟨rfl, Or.inl ⟨by rw [nI_leI (by omega) (by omega)] at h13; rw [← hv1, show g_rc s c = e by omega], rfl⟩⟩) (by omega) (by omega)
        · rw [nI_leI (by omega) (by omega)] at h13
          refine j_aload_n (i := 0) (t := 17) C d_M_most_16 rfl rfl (by first | exact jrv_r | exact jrv_n | exact jrv_f) rfl ?_
          refine j_get (t := 20) C fl_M_52 d_M_most_17 hM.1 rfl rfl ?_
          refine j_sipush (x := nI 1000) (t := 23) C d_M_most_20 rfl rfl ?_
          refine j_iload_n (i := 1) (t := 24) C d_M_most_23 rfl rfl rfl ?_
          refine j_imul (t := 25) C d_M_most_24 rfl ?_
          refine j_iload (t := 27) C d_M_most_25 rfl rfl ?_
          refine j_iadd (t := 28) C d_M_most_27 rfl ?_
          refine j_ld_has (i := 1000 * c + e) (t := 29) C d_M_most_28 hM (by first | rfl | simp only [nI_add, nI_mul, nI_1]) (by omega) (((r_col c hc).2.2.2.1 e (by omega)).1) rfl ?_
          refine j_if_eq (tgt := 70) (t := 32) C d_M_most_29 (by decide) rfl (fun h29 => ?_) (fun h29 => ?_)
          · refine j_iinc (y := _ + 1) (t := 73) (lv' := [(0, _), (1, _), (2, _), (3, _), (4, _)]) C d_M_most_70 rfl rfl (by decide) (by decide) rfl rfl ?_
            refine j_goto (tgt := 5) C d_M_most_73 (by decide) ?_
            rw [nI_1]
            first
            | exact ih (e + 1) _ (by omega) (by omega) (Or.inl ⟨(mxR_n (hs_none h29)).trans hv1, rfl⟩)
            | exact ih (e + 1) _ (by omega) (by omega) (Or.inr ⟨e, x, by omega, hx, mxR_a hx hv1, rfl⟩)
          · obtain ⟨x, hx⟩ := hs_some h29
            refine j_iload_n (i := 3) (t := 33) C d_M_most_32 rfl rfl rfl ?_
            refine j_iconst (x := (-1)) (t := 34) C d_M_most_33 rfl rfl ?_
            refine j_icmp_eq (tgt := 67) (t := 37) C d_M_most_34 (by decide) rfl (fun h34 => ?_) (fun h34 => absurd h34 (by decide))
            refine j_iload (t := 69) C d_M_most_67 rfl rfl ?_
            refine j_istore_n (i := 3) (t := 70) (lv' := [(0, _), (1, _), (2, _), (3, _), (4, _)]) C d_M_most_69 rfl (by decide) (by decide) rfl rfl ?_
            refine j_iinc (y := _ + 1) (t := 73) (lv' := [(0, _), (1, _), (2, _), (3, _), (4, _)]) C d_M_most_70 rfl rfl (by decide) (by decide) rfl rfl ?_
            refine j_goto (tgt := 5) C d_M_most_73 (by decide) ?_
            rw [nI_1]
            first
            | exact ih (e + 1) _ (by omega) (by omega) (Or.inl ⟨(mxR_n (hs_none h29)).trans hv1, rfl⟩)
            | exact ih (e + 1) _ (by omega) (by omega) (Or.inr ⟨e, x, by omega, hx, mxR_a hx hv1, rfl⟩)
      · refine j_iload (t := 7) C d_M_most_5 rfl rfl ?_
        refine j_aload_n (i := 0) (t := 8) C d_M_most_7 rfl rfl (by first | exact jrv_r | exact jrv_n | exact jrv_f) rfl ?_
        refine j_get (t := 11) C fl_M_30 d_M_most_8 hM.1 rfl rfl ?_
        refine j_iload_n (i := 1) (t := 12) C d_M_most_11 rfl rfl rfl ?_
        refine j_ld_cnt (i := c) (t := 13) C d_M_most_12 hM (by first | rfl | simp only [nI_add, nI_mul, nI_1]) (by omega) (hcnt) rfl ?_
        refine j_icmp_ge (tgt := 76) (t := 16) C d_M_most_13 (by decide) rfl (fun h13 => ?_) (fun h13 => ?_)
        · refine j_iload_n (i := 3) (t := 77) C d_M_most_76 rfl rfl rfl ?_
          exact j_iret C d_M_most_77 (by first | rfl | exact nar_b) (⟨rfl, Or.inr ⟨b, y, by omega, hy, by rw [nI_leI (by omega) (by omega)] at h13; rw [← hv1, show g_rc s c = e by omega], rfl⟩⟩) (by omega) (by omega)
        · rw [nI_leI (by omega) (by omega)] at h13
          refine j_aload_n (i := 0) (t := 17) C d_M_most_16 rfl rfl (by first | exact jrv_r | exact jrv_n | exact jrv_f) rfl ?_
          refine j_get (t := 20) C fl_M_52 d_M_most_17 hM.1 rfl rfl ?_
          refine j_sipush (x := nI 1000) (t := 23) C d_M_most_20 rfl rfl ?_
          refine j_iload_n (i := 1) (t := 24) C d_M_most_23 rfl rfl rfl ?_
          refine j_imul (t := 25) C d_M_most_24 rfl ?_
          refine j_iload (t := 27) C d_M_most_25 rfl rfl ?_
          refine j_iadd (t := 28) C d_M_most_27 rfl ?_
          refine j_ld_has (i := 1000 * c + e) (t := 29) C d_M_most_28 hM (by first | rfl | simp only [nI_add, nI_mul, nI_1]) (by omega) (((r_col c hc).2.2.2.1 e (by omega)).1) rfl ?_
          refine j_if_eq (tgt := 70) (t := 32) C d_M_most_29 (by decide) rfl (fun h29 => ?_) (fun h29 => ?_)
          · refine j_iinc (y := _ + 1) (t := 73) (lv' := [(0, _), (1, _), (2, _), (3, _), (4, _)]) C d_M_most_70 rfl rfl (by decide) (by decide) rfl rfl ?_
            refine j_goto (tgt := 5) C d_M_most_73 (by decide) ?_
            rw [nI_1]
            first
            | exact ih (e + 1) _ (by omega) (by omega) (Or.inr ⟨b, y, by omega, hy, (mxR_n (hs_none h29)).trans hv1, rfl⟩)
            | exact ih (e + 1) _ (by omega) (by omega) (Or.inr ⟨e, x, by omega, hx, mxR_b hx hv1 (Decidable.not_not.mp (fun z => h64 ((sgb_hi s60).mpr z))), rfl⟩)
            | exact ih (e + 1) _ (by omega) (by omega) (Or.inr ⟨b, y, by omega, hy, mxR_c hx hv1 ((sgb_hi s60).mp h64), rfl⟩)
          · obtain ⟨x, hx⟩ := hs_some h29
            refine j_iload_n (i := 3) (t := 33) C d_M_most_32 rfl rfl rfl ?_
            refine j_iconst (x := (-1)) (t := 34) C d_M_most_33 rfl rfl ?_
            refine j_icmp_eq (tgt := 67) (t := 37) C d_M_most_34 (by decide) rfl (fun h34 => absurd h34 (nI_m1 (by omega))) (fun h34 => ?_)
            refine j_iload_n (i := 2) (t := 38) C d_M_most_37 rfl rfl rfl ?_
            refine j_aload_n (i := 0) (t := 39) C d_M_most_38 rfl rfl (by first | exact jrv_r | exact jrv_n | exact jrv_f) rfl ?_
            refine j_aload_n (i := 0) (t := 40) C d_M_most_39 rfl rfl (by first | exact jrv_r | exact jrv_n | exact jrv_f) rfl ?_
            refine j_get (t := 43) C fl_M_27 d_M_most_40 hM.1 rfl rfl ?_
            refine j_iload_n (i := 1) (t := 44) C d_M_most_43 rfl rfl rfl ?_
            refine j_ld_ty (i := c) (t := 45) C d_M_most_44 hM (by first | rfl | simp only [nI_add, nI_mul, nI_1]) (by omega) (hty) rfl ?_
            refine j_sipush (x := nI 1000) (t := 48) C d_M_most_45 rfl rfl ?_
            refine j_iload_n (i := 1) (t := 49) C d_M_most_48 rfl rfl rfl ?_
            refine j_imul (t := 50) C d_M_most_49 rfl ?_
            refine j_iload (t := 52) C d_M_most_50 rfl rfl ?_
            refine j_iadd (t := 53) C d_M_most_52 rfl ?_
            refine j_sipush (x := nI 1000) (t := 56) C d_M_most_53 rfl rfl ?_
            refine j_iload_n (i := 1) (t := 57) C d_M_most_56 rfl rfl rfl ?_
            refine j_imul (t := 58) C d_M_most_57 rfl ?_
            refine j_iload_n (i := 3) (t := 59) C d_M_most_58 rfl rfl rfl ?_
            refine j_iadd (t := 60) C d_M_most_59 rfl ?_
            rw [nI_mul, nI_add, nI_add]
            refine j_callV (As := [_, _, _]) (t := 63) C (c_M_cmp _ o q m (g_ty s c) (1000 * c + e) (1000 * c + b) (x) (y)) d_M_most_60 jb_M_compare ml_M_116 jv_M_compare hM.1 rfl rfl rfl (Nat.le_of_ble_eq_true rfl) (by decide) (by omega) (by omega) (⟨rfl, hM, row_ok hR hW hc (by omega) hx, row_ok hR hW hc (by omega) hy⟩) rfl (fun r60 w60 p60 => ?_)
            obtain ⟨rfl, z60, rfl, s60⟩ := p60
            dsimp only [jst]
            refine j_imul (t := 64) C d_M_most_63 rfl ?_
            refine j_if_le (tgt := 70) (t := 67) C d_M_most_64 (by decide) rfl (fun h64 => ?_) (fun h64 => ?_)
            · refine j_iinc (y := _ + 1) (t := 73) (lv' := [(0, _), (1, _), (2, _), (3, _), (4, _)]) C d_M_most_70 rfl rfl (by decide) (by decide) rfl rfl ?_
              refine j_goto (tgt := 5) C d_M_most_73 (by decide) ?_
              rw [nI_1]
              first
              | exact ih (e + 1) _ (by omega) (by omega) (Or.inr ⟨b, y, by omega, hy, (mxR_n (hs_none h29)).trans hv1, rfl⟩)
              | exact ih (e + 1) _ (by omega) (by omega) (Or.inr ⟨e, x, by omega, hx, mxR_b hx hv1 (Decidable.not_not.mp (fun z => h64 ((sgb_hi s60).mpr z))), rfl⟩)
              | exact ih (e + 1) _ (by omega) (by omega) (Or.inr ⟨b, y, by omega, hy, mxR_c hx hv1 ((sgb_hi s60).mp h64), rfl⟩)
            · refine j_iload (t := 69) C d_M_most_67 rfl rfl ?_
              refine j_istore_n (i := 3) (t := 70) (lv' := [(0, _), (1, _), (2, _), (3, _), (4, _)]) C d_M_most_69 rfl (by decide) (by decide) rfl rfl ?_
              refine j_iinc (y := _ + 1) (t := 73) (lv' := [(0, _), (1, _), (2, _), (3, _), (4, _)]) C d_M_most_70 rfl rfl (by decide) (by decide) rfl rfl ?_
              refine j_goto (tgt := 5) C d_M_most_73 (by decide) ?_
              rw [nI_1]
              first
              | exact ih (e + 1) _ (by omega) (by omega) (Or.inr ⟨b, y, by omega, hy, (mxR_n (hs_none h29)).trans hv1, rfl⟩)
              | exact ih (e + 1) _ (by omega) (by omega) (Or.inr ⟨e, x, by omega, hx, mxR_b hx hv1 (Decidable.not_not.mp (fun z => h64 ((sgb_hi s60).mpr z))), rfl⟩)
              | exact ih (e + 1) _ (by omega) (by omega) (Or.inr ⟨b, y, by omega, hy, mxR_c hx hv1 ((sgb_hi s60).mp h64), rfl⟩)
  refine j_iconst (x := (-1)) (t := 1) C d_M_most_0 rfl rfl ?_
  refine j_istore_n (i := 3) (t := 2) (lv' := [(0, _), (1, _), (2, _), (3, _)]) C d_M_most_1 rfl (by decide) (by decide) rfl rfl ?_
  refine j_iconst (x := 0) (t := 3) C d_M_most_2 rfl rfl ?_
  refine j_istore (i := 4) (t := 5) (lv' := [(0, _), (1, _), (2, _), (3, _), (4, _)]) C d_M_most_3 (by decide) (by decide) rfl rfl ?_
  exact loop (g_rc s c + 1) 0 _ (by omega) (Nat.zero_le _) (Or.inl ⟨rfl, rfl⟩)

set_option maxHeartbeats 4000000 in
set_option maxRecDepth 100000 in
/-- isFirst -/
theorem c_M_isFirst (l : Launch) (o : Nat) (q : Nat → Nat) (m : jM) (s : jS) (c e : Nat) : MC l y_M_isFirst b_M_isFirst 5 (some .boolean) 1 0 0
    (fun G w av => (av = [.ref o, .int (nI c), .int (nI e)] ∧ MH G w o q m ∧ relM s m ∧ WF s) ∧ c < g_cc s ∧ e < g_rc s c)
    (fun G w av r w' => w' = w ∧ r = some (.int (bI (fstR (g_rf s c) e)))) := by
  refine MC.of 99 (by decide) ?_
  intro X w av hl C hnm hp
  obtain ⟨hp, hc, he⟩ := hp
  obtain ⟨rfl, hM, hR, hW⟩ := hp
  obtain ⟨⟨r_tn, r_tp⟩, ⟨r_cc, r_ln, r_sn, r_zn⟩, r_col, r_new, r_sz, r_lit, r_st, r_zt⟩ := id hR
  obtain ⟨wtn, wtp, wcc, wln, wsn, wzn, wcol, wlit, wst, wzt⟩ := id hW
  have hrc := (wcol c hc).2.1
  have hty := (r_col c hc).1
  have hrow := ((r_col c hc).2.2.2.1 e he).1
  refine ⟨[(0, _), (1, _), (2, _)], rfl, Nat.le_of_ble_eq_true rfl, rfl, ?_⟩
  cases hx : g_rf s c e with
  | none =>
    rw [hx] at hrow
    refine j_aload_n (i := 0) (t := 1) C d_M_isFirst_0 rfl rfl (by first | exact jrv_r | exact jrv_n | exact jrv_f) rfl ?_
    refine j_get (t := 4) C fl_M_52 d_M_isFirst_1 hM.1 rfl rfl ?_
    refine j_sipush (x := nI 1000) (t := 7) C d_M_isFirst_4 rfl rfl ?_
    refine j_iload_n (i := 1) (t := 8) C d_M_isFirst_7 rfl rfl rfl ?_
    refine j_imul (t := 9) C d_M_isFirst_8 rfl ?_
    refine j_iload_n (i := 2) (t := 10) C d_M_isFirst_9 rfl rfl rfl ?_
    refine j_iadd (t := 11) C d_M_isFirst_10 rfl ?_
    refine j_ld_has (i := 1000 * c + e) (t := 12) C d_M_isFirst_11 hM (by first | rfl | simp only [nI_add, nI_mul, nI_1]) (by omega) (hrow) rfl ?_
    refine j_istore_n (i := 3) (t := 13) (lv' := [(0, _), (1, _), (2, _), (3, _)]) C d_M_isFirst_12 rfl (by decide) (by decide) rfl rfl ?_
    refine j_iconst (x := 0) (t := 14) C d_M_isFirst_13 rfl rfl ?_
    refine j_istore (i := 4) (t := 16) (lv' := [(0, _), (1, _), (2, _), (3, _), (4, _)]) C d_M_isFirst_14 (by decide) (by decide) rfl rfl ?_
    refine j_iload (t := 18) C d_M_isFirst_16 rfl rfl ?_
    refine j_iload_n (i := 2) (t := 19) C d_M_isFirst_18 rfl rfl rfl ?_
    refine j_icmp_ge (tgt := 82) (t := 22) C d_M_isFirst_19 (by decide) rfl (fun h19 => ?_) (fun h19 => ?_)
    · refine j_iload_n (i := 3) (t := 83) C d_M_isFirst_82 rfl rfl rfl ?_
      exact j_iret C d_M_isFirst_83 (by first | rfl | exact nar_b) (⟨rfl, by rw [fstR_n hx]; rfl⟩) (by omega) (by omega)
    · refine j_iload_n (i := 3) (t := 23) C d_M_isFirst_22 rfl rfl rfl ?_
      refine j_if_eq (tgt := 82) (t := 26) C d_M_isFirst_23 (by decide) rfl (fun h23 => ?_) (fun h23 => absurd h23 (fun z => z rfl))
      refine j_iload_n (i := 3) (t := 83) C d_M_isFirst_82 rfl rfl rfl ?_
      exact j_iret C d_M_isFirst_83 (by first | rfl | exact nar_b) (⟨rfl, by rw [fstR_n hx]; rfl⟩) (by omega) (by omega)
  | some x =>
    rw [hx] at hrow
    have loop : ∀ (qq n : Nat) (b : Bool), e + 1 ≤ n + qq → n ≤ e → b = !eqB (g_rf s c) x n → J X (5, 99) (jQ X (fun r w' => w' = w ∧ r = some (.int (bI (fstR (g_rf s c) e)))) 0 0) w 0 0 16 [(0, .ref o), (1, .int (nI c)), (2, .int (nI e)), (3, .int (bI b)), (4, .int (nI n))] [] := by
      intro qq
      induction qq with
      | zero => intro n b h1 h2; omega
      | succ qq ih =>
        intro n b hn1 hn2 hb
        refine j_iload (t := 18) C d_M_isFirst_16 rfl rfl ?_
        refine j_iload_n (i := 2) (t := 19) C d_M_isFirst_18 rfl rfl rfl ?_
        refine j_icmp_ge (tgt := 82) (t := 22) C d_M_isFirst_19 (by decide) rfl (fun h19 => ?_) (fun h19 => ?_)
        · refine j_iload_n (i := 3) (t := 83) C d_M_isFirst_82 rfl rfl rfl ?_
          exact j_iret C d_M_isFirst_83 (by first | rfl | exact nar_b) (⟨rfl, by rw [fstR_s hx]; first | (rw [nI_leI (by omega) (by omega)] at h19; rw [hb, show n = e by omega]) | (rw [bI_0] at h23; rw [h23, eq_comm, Bool.not_eq_false'] at hb; rw [h23, eqB_mono hb hn2]; rfl)⟩) (by omega) (by omega)
        · rw [nI_leI (by omega) (by omega)] at h19
          refine j_iload_n (i := 3) (t := 23) C d_M_isFirst_22 rfl rfl rfl ?_
          refine j_if_eq (tgt := 82) (t := 26) C d_M_isFirst_23 (by decide) rfl (fun h23 => ?_) (fun h23 => ?_)
          · refine j_iload_n (i := 3) (t := 83) C d_M_isFirst_82 rfl rfl rfl ?_
            exact j_iret C d_M_isFirst_83 (by first | rfl | exact nar_b) (⟨rfl, by rw [fstR_s hx]; first | (rw [nI_leI (by omega) (by omega)] at h19; rw [hb, show n = e by omega]) | (rw [bI_0] at h23; rw [h23, eq_comm, Bool.not_eq_false'] at hb; rw [h23, eqB_mono hb hn2]; rfl)⟩) (by omega) (by omega)
          · rw [bI_0, Bool.not_eq_false] at h23
            rw [h23, eq_comm, Bool.not_eq_true'] at hb
            refine j_aload_n (i := 0) (t := 27) C d_M_isFirst_26 rfl rfl (by first | exact jrv_r | exact jrv_n | exact jrv_f) rfl ?_
            refine j_get (t := 30) C fl_M_52 d_M_isFirst_27 hM.1 rfl rfl ?_
            refine j_sipush (x := nI 1000) (t := 33) C d_M_isFirst_30 rfl rfl ?_
            refine j_iload_n (i := 1) (t := 34) C d_M_isFirst_33 rfl rfl rfl ?_
            refine j_imul (t := 35) C d_M_isFirst_34 rfl ?_
            refine j_iload (t := 37) C d_M_isFirst_35 rfl rfl ?_
            refine j_iadd (t := 38) C d_M_isFirst_37 rfl ?_
            refine j_ld_has (i := 1000 * c + n) (t := 39) C d_M_isFirst_38 hM (by first | rfl | simp only [nI_add, nI_mul, nI_1]) (by omega) (((r_col c hc).2.2.2.1 n (by omega)).1) rfl ?_
            refine j_if_eq (tgt := 70) (t := 42) C d_M_isFirst_39 (by decide) rfl (fun h39 => ?_) (fun h39 => ?_)
            · refine j_iconst (x := 1) (t := 71) C d_M_isFirst_70 rfl rfl ?_
              refine j_goto (tgt := 75) C d_M_isFirst_71 (by decide) ?_
              refine j_istore_n (i := 3) (t := 76) (lv' := [(0, _), (1, _), (2, _), (3, _), (4, _)]) C d_M_isFirst_75 rfl (by decide) (by decide) rfl rfl ?_
              refine j_iinc (y := _ + 1) (t := 79) (lv' := [(0, _), (1, _), (2, _), (3, _), (4, _)]) C d_M_isFirst_76 rfl rfl (by decide) (by decide) rfl rfl ?_
              refine j_goto (tgt := 16) C d_M_isFirst_79 (by decide) ?_
              rw [nI_1]
              first
              | exact ih (n + 1) true (by omega) (by omega) (by rw [eqB_n hb (hs_none h39)]; rfl)
              | exact ih (n + 1) true (by omega) (by omega) (by rw [eqB_f hb hy (fun z => h67 (s64.1.2.mpr z))]; rfl)
              | exact ih (n + 1) false (by omega) (by omega) (by rw [eqB_t hy (s64.1.2.mp h67)]; rfl)
            · obtain ⟨y, hy⟩ := hs_some h39
              refine j_aload_n (i := 0) (t := 43) C d_M_isFirst_42 rfl rfl (by first | exact jrv_r | exact jrv_n | exact jrv_f) rfl ?_
              refine j_aload_n (i := 0) (t := 44) C d_M_isFirst_43 rfl rfl (by first | exact jrv_r | exact jrv_n | exact jrv_f) rfl ?_
              refine j_get (t := 47) C fl_M_27 d_M_isFirst_44 hM.1 rfl rfl ?_
              refine j_iload_n (i := 1) (t := 48) C d_M_isFirst_47 rfl rfl rfl ?_
              refine j_ld_ty (i := c) (t := 49) C d_M_isFirst_48 hM (by first | rfl | simp only [nI_add, nI_mul, nI_1]) (by omega) (hty) rfl ?_
              refine j_sipush (x := nI 1000) (t := 52) C d_M_isFirst_49 rfl rfl ?_
              refine j_iload_n (i := 1) (t := 53) C d_M_isFirst_52 rfl rfl rfl ?_
              refine j_imul (t := 54) C d_M_isFirst_53 rfl ?_
              refine j_iload (t := 56) C d_M_isFirst_54 rfl rfl ?_
              refine j_iadd (t := 57) C d_M_isFirst_56 rfl ?_
              refine j_sipush (x := nI 1000) (t := 60) C d_M_isFirst_57 rfl rfl ?_
              refine j_iload_n (i := 1) (t := 61) C d_M_isFirst_60 rfl rfl rfl ?_
              refine j_imul (t := 62) C d_M_isFirst_61 rfl ?_
              refine j_iload_n (i := 2) (t := 63) C d_M_isFirst_62 rfl rfl rfl ?_
              refine j_iadd (t := 64) C d_M_isFirst_63 rfl ?_
              rw [nI_mul, nI_add, nI_add]
              refine j_callV (As := [_, _, _]) (t := 67) C (c_M_cmp _ o q m (g_ty s c) (1000 * c + n) (1000 * c + e) (y) (x)) d_M_isFirst_64 jb_M_compare ml_M_116 jv_M_compare hM.1 rfl rfl rfl (Nat.le_of_ble_eq_true rfl) (by decide) (by omega) (by omega) (⟨rfl, hM, row_ok hR hW hc (by omega) hy, row_ok hR hW hc he hx⟩) rfl (fun r64 w64 p64 => ?_)
              obtain ⟨rfl, z64, rfl, s64⟩ := p64
              dsimp only [jst]
              refine j_if_eq (tgt := 74) (t := 70) C d_M_isFirst_67 (by decide) rfl (fun h67 => ?_) (fun h67 => ?_)
              · refine j_iconst (x := 0) (t := 75) C d_M_isFirst_74 rfl rfl ?_
                refine j_istore_n (i := 3) (t := 76) (lv' := [(0, _), (1, _), (2, _), (3, _), (4, _)]) C d_M_isFirst_75 rfl (by decide) (by decide) rfl rfl ?_
                refine j_iinc (y := _ + 1) (t := 79) (lv' := [(0, _), (1, _), (2, _), (3, _), (4, _)]) C d_M_isFirst_76 rfl rfl (by decide) (by decide) rfl rfl ?_
                refine j_goto (tgt := 16) C d_M_isFirst_79 (by decide) ?_
                rw [nI_1]
                first
                | exact ih (n + 1) true (by omega) (by omega) (by rw [eqB_n hb (hs_none h39)]; rfl)
                | exact ih (n + 1) true (by omega) (by omega) (by rw [eqB_f hb hy (fun z => h67 (s64.1.2.mpr z))]; rfl)
                | exact ih (n + 1) false (by omega) (by omega) (by rw [eqB_t hy (s64.1.2.mp h67)]; rfl)
              · refine j_iconst (x := 1) (t := 71) C d_M_isFirst_70 rfl rfl ?_
                refine j_goto (tgt := 75) C d_M_isFirst_71 (by decide) ?_
                refine j_istore_n (i := 3) (t := 76) (lv' := [(0, _), (1, _), (2, _), (3, _), (4, _)]) C d_M_isFirst_75 rfl (by decide) (by decide) rfl rfl ?_
                refine j_iinc (y := _ + 1) (t := 79) (lv' := [(0, _), (1, _), (2, _), (3, _), (4, _)]) C d_M_isFirst_76 rfl rfl (by decide) (by decide) rfl rfl ?_
                refine j_goto (tgt := 16) C d_M_isFirst_79 (by decide) ?_
                rw [nI_1]
                first
                | exact ih (n + 1) true (by omega) (by omega) (by rw [eqB_n hb (hs_none h39)]; rfl)
                | exact ih (n + 1) true (by omega) (by omega) (by rw [eqB_f hb hy (fun z => h67 (s64.1.2.mpr z))]; rfl)
                | exact ih (n + 1) false (by omega) (by omega) (by rw [eqB_t hy (s64.1.2.mp h67)]; rfl)
    refine j_aload_n (i := 0) (t := 1) C d_M_isFirst_0 rfl rfl (by first | exact jrv_r | exact jrv_n | exact jrv_f) rfl ?_
    refine j_get (t := 4) C fl_M_52 d_M_isFirst_1 hM.1 rfl rfl ?_
    refine j_sipush (x := nI 1000) (t := 7) C d_M_isFirst_4 rfl rfl ?_
    refine j_iload_n (i := 1) (t := 8) C d_M_isFirst_7 rfl rfl rfl ?_
    refine j_imul (t := 9) C d_M_isFirst_8 rfl ?_
    refine j_iload_n (i := 2) (t := 10) C d_M_isFirst_9 rfl rfl rfl ?_
    refine j_iadd (t := 11) C d_M_isFirst_10 rfl ?_
    refine j_ld_has (i := 1000 * c + e) (t := 12) C d_M_isFirst_11 hM (by first | rfl | simp only [nI_add, nI_mul, nI_1]) (by omega) (hrow) rfl ?_
    refine j_istore_n (i := 3) (t := 13) (lv' := [(0, _), (1, _), (2, _), (3, _)]) C d_M_isFirst_12 rfl (by decide) (by decide) rfl rfl ?_
    refine j_iconst (x := 0) (t := 14) C d_M_isFirst_13 rfl rfl ?_
    refine j_istore (i := 4) (t := 16) (lv' := [(0, _), (1, _), (2, _), (3, _), (4, _)]) C d_M_isFirst_14 (by decide) (by decide) rfl rfl ?_
    exact loop (e + 1) 0 true (by omega) (Nat.zero_le _) rfl
