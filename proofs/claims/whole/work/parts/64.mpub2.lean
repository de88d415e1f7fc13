set_option maxHeartbeats 4000000 in
set_option maxRecDepth 100000 in
/-- step -/
theorem c_M_step (l : Launch) (o : Nat) (s : jS) (kd x op y a : Int32) : MC l y_M_step b_M_step 6 ((some .int)) 2 0 0
    (fun G w av => av = [.ref o, .int kd, .int x, .int op, .int y, .int a] ∧ RepM G w o s ∧ WF s)
    (fun G w av r w' => r = some (.int (sp_step s kd x op y a).1) ∧ RepM G w' o (sp_step s kd x op y a).2) := by
  refine MC.of 99 (by decide) ?_
  intro X w av hl C hnm hp
  obtain ⟨rfl, ⟨q, m, hM, hR⟩, hW⟩ := hp
  obtain ⟨wtn, wtp, wcc, wln, wsn, wzn, wcol, wlit, wst, wzt⟩ := id hW
  refine ⟨[(0, _), (1, _), (2, _), (3, _), (4, _), (5, _)], rfl, Nat.le_of_ble_eq_true rfl, rfl, ?_⟩
  refine j_aload_n (i := 0) (t := 1) C d_M_step_0 rfl rfl (by first | exact jrv_r | exact jrv_n | exact jrv_f) rfl ?_
  refine j_iconst (x := 0) (t := 2) C d_M_step_1 rfl rfl ?_
  refine j_pt_cd (t := 5) C fp_M_79 d_M_step_2 hM rfl (fun w2 M2 => ?_)
  obtain ⟨n, M2, hR⟩ : ∃ n : jM, MH (xG X) w2 o q n ∧ relM s n := ⟨_, M2, relM_cd hR⟩
  obtain ⟨⟨r_tn, r_tp⟩, ⟨r_cc, r_ln, r_sn, r_zn⟩, r_col, r_new, r_sz, r_lit, r_st, r_zt⟩ := id hR
  refine j_aload_n (i := 0) (t := 6) C d_M_step_5 rfl rfl (by first | exact jrv_r | exact jrv_n | exact jrv_f) rfl ?_
  refine j_get (t := 9) C fl_M_109 d_M_step_6 M2.1 rfl rfl ?_
  refine j_bipush (x := nI 64) (t := 11) C d_M_step_9 rfl rfl ?_
  rw [r_sn]
  refine j_icmp_eq (tgt := 43) (t := 14) C d_M_step_11 (by decide) rfl (fun h11 => ?_) (fun h11 => ?_)
  · refine j_iconst (x := (-1)) (t := 44) C d_M_step_43 rfl rfl ?_
    exact j_iret C d_M_step_44 (by first | rfl | exact nar_b) (by
      have hn : ¬ ((g_sn s < 64 ∧ ¬ kd < 0 ∧ kd ≤ 7) ∧ (kd < 5 → stFit s kd x op y a = true)) := by
        rintro ⟨⟨z1, z2, z3⟩, z4⟩
        first
        | exact absurd ((nI_eq (by omega) (by omega)).mp h11) (by omega)
        | exact z2 h15
        | exact Int32.not_lt.mpr z3 h21
        | exact absurd ((z4 (Int32.not_le.mp h26)).symm.trans (bI_0.mp h40)) (by decide)
      unfold sp_step
      rw [if_neg hn]
      exact ⟨rfl, RepM.of M2 hR⟩) (by omega) (by omega)
  · refine j_iload_n (i := 1) (t := 15) C d_M_step_14 rfl rfl rfl ?_
    refine j_if_lt (tgt := 43) (t := 18) C d_M_step_15 (by decide) rfl (fun h15 => ?_) (fun h15 => ?_)
    · refine j_iconst (x := (-1)) (t := 44) C d_M_step_43 rfl rfl ?_
      exact j_iret C d_M_step_44 (by first | rfl | exact nar_b) (by
      have hn : ¬ ((g_sn s < 64 ∧ ¬ kd < 0 ∧ kd ≤ 7) ∧ (kd < 5 → stFit s kd x op y a = true)) := by
        rintro ⟨⟨z1, z2, z3⟩, z4⟩
        first
        | exact absurd ((nI_eq (by omega) (by omega)).mp h11) (by omega)
        | exact z2 h15
        | exact Int32.not_lt.mpr z3 h21
        | exact absurd ((z4 (Int32.not_le.mp h26)).symm.trans (bI_0.mp h40)) (by decide)
      unfold sp_step
      rw [if_neg hn]
      exact ⟨rfl, RepM.of M2 hR⟩) (by omega) (by omega)
    · refine j_iload_n (i := 1) (t := 19) C d_M_step_18 rfl rfl rfl ?_
      refine j_bipush (x := nI 7) (t := 21) C d_M_step_19 rfl rfl ?_
      refine j_icmp_gt (tgt := 43) (t := 24) C d_M_step_21 (by decide) rfl (fun h21 => ?_) (fun h21 => ?_)
      · refine j_iconst (x := (-1)) (t := 44) C d_M_step_43 rfl rfl ?_
        exact j_iret C d_M_step_44 (by first | rfl | exact nar_b) (by
      have hn : ¬ ((g_sn s < 64 ∧ ¬ kd < 0 ∧ kd ≤ 7) ∧ (kd < 5 → stFit s kd x op y a = true)) := by
        rintro ⟨⟨z1, z2, z3⟩, z4⟩
        first
        | exact absurd ((nI_eq (by omega) (by omega)).mp h11) (by omega)
        | exact z2 h15
        | exact Int32.not_lt.mpr z3 h21
        | exact absurd ((z4 (Int32.not_le.mp h26)).symm.trans (bI_0.mp h40)) (by decide)
      unfold sp_step
      rw [if_neg hn]
      exact ⟨rfl, RepM.of M2 hR⟩) (by omega) (by omega)
      · refine j_iload_n (i := 1) (t := 25) C d_M_step_24 rfl rfl rfl ?_
        refine j_iconst (x := 5) (t := 26) C d_M_step_25 rfl rfl ?_
        refine j_icmp_ge (tgt := 45) (t := 29) C d_M_step_26 (by decide) rfl (fun h26 => ?_) (fun h26 => ?_)
        · have hsn : g_sn s < 64 := fne h11 wsn
          have h47 : kd < 5 → stFit s kd x op y a = true := fun z => by first | exact absurd z (Int32.not_lt.mpr h26) | exact bI_t h40
          have h48 : kd < 5 → x = nI ((cix s x).getD 0) := fun z => stFit_x wcc (h47 z)
          refine j_aload_n (i := 0) (t := 46) C d_M_step_45 rfl rfl (by first | exact jrv_r | exact jrv_n | exact jrv_f) rfl ?_
          refine j_get (t := 49) C fl_M_58 d_M_step_46 M2.1 rfl rfl ?_
          refine j_aload_n (i := 0) (t := 50) C d_M_step_49 rfl rfl (by first | exact jrv_r | exact jrv_n | exact jrv_f) rfl ?_
          refine j_get (t := 53) C fl_M_109 d_M_step_50 M2.1 rfl rfl ?_
          refine j_iload_n (i := 1) (t := 54) C d_M_step_53 rfl rfl rfl ?_
          refine j_st_kd (i := g_sn s) (t := 55) C d_M_step_54 M2 (by exact r_sn) (by omega) rfl (fun w54 M54 => ?_)
          refine j_aload_n (i := 0) (t := 56) C d_M_step_55 rfl rfl (by first | exact jrv_r | exact jrv_n | exact jrv_f) rfl ?_
          refine j_get (t := 59) C fl_M_61 d_M_step_56 M54.1 rfl rfl ?_
          refine j_aload_n (i := 0) (t := 60) C d_M_step_59 rfl rfl (by first | exact jrv_r | exact jrv_n | exact jrv_f) rfl ?_
          refine j_get (t := 63) C fl_M_109 d_M_step_60 M54.1 rfl rfl ?_
          refine j_iload_n (i := 2) (t := 64) C d_M_step_63 rfl rfl rfl ?_
          refine j_st_fi (i := g_sn s) (t := 65) C d_M_step_64 M54 (by exact r_sn) (by omega) rfl (fun w64 M64 => ?_)
          refine j_aload_n (i := 0) (t := 66) C d_M_step_65 rfl rfl (by first | exact jrv_r | exact jrv_n | exact jrv_f) rfl ?_
          refine j_get (t := 69) C fl_M_64 d_M_step_66 M64.1 rfl rfl ?_
          refine j_aload_n (i := 0) (t := 70) C d_M_step_69 rfl rfl (by first | exact jrv_r | exact jrv_n | exact jrv_f) rfl ?_
          refine j_get (t := 73) C fl_M_109 d_M_step_70 M64.1 rfl rfl ?_
          refine j_iload_n (i := 3) (t := 74) C d_M_step_73 rfl rfl rfl ?_
          refine j_st_op (i := g_sn s) (t := 75) C d_M_step_74 M64 (by exact r_sn) (by omega) rfl (fun w74 M74 => ?_)
          refine j_aload_n (i := 0) (t := 76) C d_M_step_75 rfl rfl (by first | exact jrv_r | exact jrv_n | exact jrv_f) rfl ?_
          refine j_get (t := 79) C fl_M_67 d_M_step_76 M74.1 rfl rfl ?_
          refine j_aload_n (i := 0) (t := 80) C d_M_step_79 rfl rfl (by first | exact jrv_r | exact jrv_n | exact jrv_f) rfl ?_
          refine j_get (t := 83) C fl_M_109 d_M_step_80 M74.1 rfl rfl ?_
          refine j_iload (t := 85) C d_M_step_83 rfl rfl ?_
          refine j_st_ot (i := g_sn s) (t := 86) C d_M_step_85 M74 (by exact r_sn) (by omega) rfl (fun w85 M85 => ?_)
          refine j_aload_n (i := 0) (t := 87) C d_M_step_86 rfl rfl (by first | exact jrv_r | exact jrv_n | exact jrv_f) rfl ?_
          refine j_get (t := 90) C fl_M_70 d_M_step_87 M85.1 rfl rfl ?_
          refine j_aload_n (i := 0) (t := 91) C d_M_step_90 rfl rfl (by first | exact jrv_r | exact jrv_n | exact jrv_f) rfl ?_
          refine j_get (t := 94) C fl_M_109 d_M_step_91 M85.1 rfl rfl ?_
          refine j_iload (t := 96) C d_M_step_94 rfl rfl ?_
          refine j_st_mn (i := g_sn s) (t := 97) C d_M_step_96 M85 (by exact r_sn) (by omega) rfl (fun w96 M96 => ?_)
          refine j_aload_n (i := 0) (t := 98) C d_M_step_97 rfl rfl (by first | exact jrv_r | exact jrv_n | exact jrv_f) rfl ?_
          refine j_dup (t := 99) C d_M_step_98 rfl rfl ?_
          refine j_get (t := 102) C fl_M_109 d_M_step_99 M96.1 rfl rfl ?_
          refine j_iconst (x := 1) (t := 103) C d_M_step_102 rfl rfl ?_
          refine j_iadd (t := 104) C d_M_step_103 rfl ?_
          rw [show mg_sn (mp_mn (mp_ot (mp_op (mp_fi (mp_kd n (upd (mg_kd n) (g_sn s) kd)) (upd (mg_fi n) (g_sn s) x)) (upd (mg_op n) (g_sn s) op)) (upd (mg_ot n) (g_sn s) y)) (upd (mg_mn n) (g_sn s) a)) = nI (g_sn s) from r_sn, nI_1]
          refine j_pt_sn (t := 107) C fp_M_109 d_M_step_104 M96 rfl (fun w104 M104 => ?_)
          refine j_aload_n (i := 0) (t := 108) C d_M_step_107 rfl rfl (by first | exact jrv_r | exact jrv_n | exact jrv_f) rfl ?_
          refine j_get (t := 111) C fl_M_109 d_M_step_108 M104.1 rfl rfl ?_
          refine j_iconst (x := 1) (t := 112) C d_M_step_111 rfl rfl ?_
          refine j_isub (t := 113) C d_M_step_112 rfl ?_
          exact j_iret C d_M_step_113 (by first | rfl | exact nar_b) (by
      unfold sp_step
      rw [if_pos ⟨⟨hsn, h15, Int32.not_lt.mp h21⟩, h47⟩]
      exact ⟨congrArg (fun z => some (Value.int z)) (nI_pred (g_sn s)), RepM.of M104 (relM_step hR h48)⟩) (by omega) (by omega)
        · refine j_aload_n (i := 0) (t := 30) C d_M_step_29 rfl rfl (by first | exact jrv_r | exact jrv_n | exact jrv_f) rfl ?_
          refine j_iload_n (i := 1) (t := 31) C d_M_step_30 rfl rfl rfl ?_
          refine j_iload_n (i := 2) (t := 32) C d_M_step_31 rfl rfl rfl ?_
          refine j_iload_n (i := 3) (t := 33) C d_M_step_32 rfl rfl rfl ?_
          refine j_iload (t := 35) C d_M_step_33 rfl rfl ?_
          refine j_iload (t := 37) C d_M_step_35 rfl rfl ?_
          refine j_callV (As := [_, _, _, _, _]) (t := 40) C (c_M_isTest _ o q n s kd x op y a) d_M_step_37 jb_M_isTest ml_M_112 jv_M_isTest M2.1 rfl rfl rfl (Nat.le_of_ble_eq_true rfl) (by decide) (by omega) (by omega) (⟨⟨rfl, M2, hR, hW⟩, h15, Int32.not_le.mp h26⟩) rfl (fun r37 w37 p37 => ?_)
          obtain ⟨rfl, rfl⟩ := p37
          dsimp only [jst]
          refine j_if_ne (tgt := 45) (t := 43) C d_M_step_40 (by decide) rfl (fun h40 => ?_) (fun h40 => ?_)
          · have hsn : g_sn s < 64 := fne h11 wsn
            have h47 : kd < 5 → stFit s kd x op y a = true := fun z => by first | exact absurd z (Int32.not_lt.mpr h26) | exact bI_t h40
            have h48 : kd < 5 → x = nI ((cix s x).getD 0) := fun z => stFit_x wcc (h47 z)
            refine j_aload_n (i := 0) (t := 46) C d_M_step_45 rfl rfl (by first | exact jrv_r | exact jrv_n | exact jrv_f) rfl ?_
            refine j_get (t := 49) C fl_M_58 d_M_step_46 M2.1 rfl rfl ?_
            refine j_aload_n (i := 0) (t := 50) C d_M_step_49 rfl rfl (by first | exact jrv_r | exact jrv_n | exact jrv_f) rfl ?_
            refine j_get (t := 53) C fl_M_109 d_M_step_50 M2.1 rfl rfl ?_
            refine j_iload_n (i := 1) (t := 54) C d_M_step_53 rfl rfl rfl ?_
            refine j_st_kd (i := g_sn s) (t := 55) C d_M_step_54 M2 (by exact r_sn) (by omega) rfl (fun w54 M54 => ?_)
            refine j_aload_n (i := 0) (t := 56) C d_M_step_55 rfl rfl (by first | exact jrv_r | exact jrv_n | exact jrv_f) rfl ?_
            refine j_get (t := 59) C fl_M_61 d_M_step_56 M54.1 rfl rfl ?_
            refine j_aload_n (i := 0) (t := 60) C d_M_step_59 rfl rfl (by first | exact jrv_r | exact jrv_n | exact jrv_f) rfl ?_
            refine j_get (t := 63) C fl_M_109 d_M_step_60 M54.1 rfl rfl ?_
            refine j_iload_n (i := 2) (t := 64) C d_M_step_63 rfl rfl rfl ?_
            refine j_st_fi (i := g_sn s) (t := 65) C d_M_step_64 M54 (by exact r_sn) (by omega) rfl (fun w64 M64 => ?_)
            refine j_aload_n (i := 0) (t := 66) C d_M_step_65 rfl rfl (by first | exact jrv_r | exact jrv_n | exact jrv_f) rfl ?_
            refine j_get (t := 69) C fl_M_64 d_M_step_66 M64.1 rfl rfl ?_
            refine j_aload_n (i := 0) (t := 70) C d_M_step_69 rfl rfl (by first | exact jrv_r | exact jrv_n | exact jrv_f) rfl ?_
            refine j_get (t := 73) C fl_M_109 d_M_step_70 M64.1 rfl rfl ?_
            refine j_iload_n (i := 3) (t := 74) C d_M_step_73 rfl rfl rfl ?_
            refine j_st_op (i := g_sn s) (t := 75) C d_M_step_74 M64 (by exact r_sn) (by omega) rfl (fun w74 M74 => ?_)
            refine j_aload_n (i := 0) (t := 76) C d_M_step_75 rfl rfl (by first | exact jrv_r | exact jrv_n | exact jrv_f) rfl ?_
            refine j_get (t := 79) C fl_M_67 d_M_step_76 M74.1 rfl rfl ?_
            refine j_aload_n (i := 0) (t := 80) C d_M_step_79 rfl rfl (by first | exact jrv_r | exact jrv_n | exact jrv_f) rfl ?_
            refine j_get (t := 83) C fl_M_109 d_M_step_80 M74.1 rfl rfl ?_
            refine j_iload (t := 85) C d_M_step_83 rfl rfl ?_
            refine j_st_ot (i := g_sn s) (t := 86) C d_M_step_85 M74 (by exact r_sn) (by omega) rfl (fun w85 M85 => ?_)
            refine j_aload_n (i := 0) (t := 87) C d_M_step_86 rfl rfl (by first | exact jrv_r | exact jrv_n | exact jrv_f) rfl ?_
            refine j_get (t := 90) C fl_M_70 d_M_step_87 M85.1 rfl rfl ?_
            refine j_aload_n (i := 0) (t := 91) C d_M_step_90 rfl rfl (by first | exact jrv_r | exact jrv_n | exact jrv_f) rfl ?_
            refine j_get (t := 94) C fl_M_109 d_M_step_91 M85.1 rfl rfl ?_
            refine j_iload (t := 96) C d_M_step_94 rfl rfl ?_
            refine j_st_mn (i := g_sn s) (t := 97) C d_M_step_96 M85 (by exact r_sn) (by omega) rfl (fun w96 M96 => ?_)
            refine j_aload_n (i := 0) (t := 98) C d_M_step_97 rfl rfl (by first | exact jrv_r | exact jrv_n | exact jrv_f) rfl ?_
            refine j_dup (t := 99) C d_M_step_98 rfl rfl ?_
            refine j_get (t := 102) C fl_M_109 d_M_step_99 M96.1 rfl rfl ?_
            refine j_iconst (x := 1) (t := 103) C d_M_step_102 rfl rfl ?_
            refine j_iadd (t := 104) C d_M_step_103 rfl ?_
            rw [show mg_sn (mp_mn (mp_ot (mp_op (mp_fi (mp_kd n (upd (mg_kd n) (g_sn s) kd)) (upd (mg_fi n) (g_sn s) x)) (upd (mg_op n) (g_sn s) op)) (upd (mg_ot n) (g_sn s) y)) (upd (mg_mn n) (g_sn s) a)) = nI (g_sn s) from r_sn, nI_1]
            refine j_pt_sn (t := 107) C fp_M_109 d_M_step_104 M96 rfl (fun w104 M104 => ?_)
            refine j_aload_n (i := 0) (t := 108) C d_M_step_107 rfl rfl (by first | exact jrv_r | exact jrv_n | exact jrv_f) rfl ?_
            refine j_get (t := 111) C fl_M_109 d_M_step_108 M104.1 rfl rfl ?_
            refine j_iconst (x := 1) (t := 112) C d_M_step_111 rfl rfl ?_
            refine j_isub (t := 113) C d_M_step_112 rfl ?_
            exact j_iret C d_M_step_113 (by first | rfl | exact nar_b) (by
      unfold sp_step
      rw [if_pos ⟨⟨hsn, h15, Int32.not_lt.mp h21⟩, h47⟩]
      exact ⟨congrArg (fun z => some (Value.int z)) (nI_pred (g_sn s)), RepM.of M104 (relM_step hR h48)⟩) (by omega) (by omega)
          · refine j_iconst (x := (-1)) (t := 44) C d_M_step_43 rfl rfl ?_
            exact j_iret C d_M_step_44 (by first | rfl | exact nar_b) (by
      have hn : ¬ ((g_sn s < 64 ∧ ¬ kd < 0 ∧ kd ≤ 7) ∧ (kd < 5 → stFit s kd x op y a = true)) := by
        rintro ⟨⟨z1, z2, z3⟩, z4⟩
        first
        | exact absurd ((nI_eq (by omega) (by omega)).mp h11) (by omega)
        | exact z2 h15
        | exact Int32.not_lt.mpr z3 h21
        | exact absurd ((z4 (Int32.not_le.mp h26)).symm.trans (bI_0.mp h40)) (by decide)
      unfold sp_step
      rw [if_neg hn]
      exact ⟨rfl, RepM.of M2 hR⟩) (by omega) (by omega)

set_option maxHeartbeats 4000000 in
set_option maxRecDepth 100000 in
/-- can -/
theorem c_M_can (l : Launch) (o : Nat) (s : jS) : MC l y_M_can b_M_can 1 ((some .int)) 5 0 0
    (fun G w av => av = [.ref o] ∧ RepM G w o s ∧ WF s)
    (fun G w av r w' => r = some (.int (sp_can s)) ∧ RepM G w' o s) := by
  refine MC.of 99 (by decide) ?_
  intro X w av hl C hnm hp
  obtain ⟨rfl, ⟨q, m, hM, hR⟩, hW⟩ := hp
  obtain ⟨wtn, wtp, wcc, wln, wsn, wzn, wcol, wlit, wst, wzt⟩ := id hW
  refine ⟨[(0, _)], rfl, Nat.le_of_ble_eq_true rfl, rfl, ?_⟩
  refine j_aload_n (i := 0) (t := 1) C d_M_can_0 rfl rfl (by first | exact jrv_r | exact jrv_n | exact jrv_f) rfl ?_
  refine j_iconst (x := 0) (t := 2) C d_M_can_1 rfl rfl ?_
  refine j_pt_cd (t := 5) C fp_M_79 d_M_can_2 hM rfl (fun w2 M2 => ?_)
  obtain ⟨n, M2, hR⟩ : ∃ n : jM, MH (xG X) w2 o q n ∧ relM s n := ⟨_, M2, relM_cd hR⟩
  obtain ⟨⟨r_tn, r_tp⟩, ⟨r_cc, r_ln, r_sn, r_zn⟩, r_col, r_new, r_sz, r_lit, r_st, r_zt⟩ := id hR
  refine j_aload_n (i := 0) (t := 6) C d_M_can_5 rfl rfl (by first | exact jrv_r | exact jrv_n | exact jrv_f) rfl ?_
  refine j_callV (As := []) (t := 9) C (c_M_isCondition _ o q n s) d_M_can_6 jb_M_isCondition ml_M_138 jv_M_isCondition M2.1 rfl rfl rfl (Nat.le_of_ble_eq_true rfl) (by decide) (by omega) (by omega) (⟨rfl, M2, hR, hW⟩) rfl (fun r6 w6 p6 => ?_)
  obtain ⟨rfl, rfl⟩ := p6
  dsimp only [jst]
  refine j_if_eq (tgt := 20) (t := 12) C d_M_can_9 (by decide) rfl (fun h9 => ?_) (fun h9 => ?_)
  · refine j_iconst (x := (-1)) (t := 21) C d_M_can_20 rfl rfl ?_
    exact j_iret C d_M_can_21 (by first | rfl | exact nar_b) (⟨by unfold sp_can; first | (rw [if_pos h9]) | (rw [if_neg (fun z => absurd (z.symm.trans (bI_0.mp h9)) (by decide))]), by first | exact RepM.of M14 (relM_pl hR) | exact RepM.of M2 hR⟩) (by omega) (by omega)
  · rw [bI_0, Bool.not_eq_false] at h9
    refine j_aload_n (i := 0) (t := 13) C d_M_can_12 rfl rfl (by first | exact jrv_r | exact jrv_n | exact jrv_f) rfl ?_
    refine j_iconst (x := (-1)) (t := 14) C d_M_can_13 rfl rfl ?_
    refine j_callV (As := [_]) (t := 17) C (c_M_condition _ o q n s (cAt s) (-1)) d_M_can_14 jb_M_condition ml_M_142 jv_M_condition M2.1 rfl rfl rfl (Nat.le_of_ble_eq_true rfl) (by decide) (by omega) (by omega) (⟨⟨rfl, M2, hR, hW⟩, h9, Or.inl ⟨rfl, rfl⟩⟩) rfl (fun r14 w14 p14 => ?_)
    obtain ⟨rfl, pl, M14⟩ := p14
    dsimp only [jst]
    refine j_goto (tgt := 21) C d_M_can_17 (by decide) ?_
    exact j_iret C d_M_can_21 (by first | rfl | exact nar_b) (⟨by unfold sp_can; first | (rw [if_pos h9]) | (rw [if_neg (fun z => absurd (z.symm.trans (bI_0.mp h9)) (by decide))]), by first | exact RepM.of M14 (relM_pl hR) | exact RepM.of M2 hR⟩) (by omega) (by omega)

set_option maxHeartbeats 4000000 in
set_option maxRecDepth 100000 in
/-- feed -/
theorem c_M_feed (l : Launch) (o : Nat) (s : jS) (a b c d e : Int32) : MC l y_M_feed b_M_feed 8 ((some .boolean)) 0 0 0
    (fun G w av => av = [.ref o, .int a, .int b, .int c, .int d, .int e] ∧ RepM G w o s ∧ WF s)
    (fun G w av r w' => r = some (.int (sp_feed s a b c d e).1) ∧ RepM G w' o (sp_feed s a b c d e).2) := by
  refine MC.of 99 (by decide) ?_
  intro X w av hl C hnm hp
  obtain ⟨rfl, ⟨q, m, hM, hR⟩, hW⟩ := hp
  obtain ⟨wtn, wtp, wcc, wln, wsn, wzn, wcol, wlit, wst, wzt⟩ := id hW
  refine ⟨[(0, _), (1, _), (2, _), (3, _), (4, _), (5, _)], rfl, Nat.le_of_ble_eq_true rfl, rfl, ?_⟩
  refine j_aload_n (i := 0) (t := 1) C d_M_feed_0 rfl rfl (by first | exact jrv_r | exact jrv_n | exact jrv_f) rfl ?_
  refine j_iconst (x := 0) (t := 2) C d_M_feed_1 rfl rfl ?_
  refine j_pt_cd (t := 5) C fp_M_79 d_M_feed_2 hM rfl (fun w2 M2 => ?_)
  obtain ⟨n, M2, hR⟩ : ∃ n : jM, MH (xG X) w2 o q n ∧ relM s n := ⟨_, M2, relM_cd hR⟩
  obtain ⟨⟨r_tn, r_tp⟩, ⟨r_cc, r_ln, r_sn, r_zn⟩, r_col, r_new, r_sz, r_lit, r_st, r_zt⟩ := id hR
  refine j_aload_n (i := 0) (t := 6) C d_M_feed_5 rfl rfl (by first | exact jrv_r | exact jrv_n | exact jrv_f) rfl ?_
  refine j_get (t := 9) C fl_M_83 d_M_feed_6 M2.1 rfl rfl ?_
  refine j_bipush (x := nI 20) (t := 11) C d_M_feed_9 rfl rfl ?_
  refine j_iadd (t := 12) C d_M_feed_11 rfl ?_
  refine j_sipush (x := nI 1000) (t := 15) C d_M_feed_12 rfl rfl ?_
  rw [r_tn, nI_add]
  refine j_icmp_le (tgt := 20) (t := 18) C d_M_feed_15 (by decide) rfl (fun h15 => ?_) (fun h15 => ?_)
  · have ht : g_tn s ≤ 980 := by have := (nI_leI (by omega) (by omega)).mp h15; omega
    refine j_iconst (x := 0) (t := 21) C d_M_feed_20 rfl rfl ?_
    refine j_istore (i := 6) (t := 23) (lv' := [(0, _), (1, _), (2, _), (3, _), (4, _), (5, _), (6, _)]) C d_M_feed_21 (by decide) (by decide) rfl rfl ?_
    have loop : ∀ (qq i : Nat) (wi : jw) (ti : Nat → Int32), 21 ≤ i + qq → i ≤ 20 → MH (xG X) wi o q (mp_tape n ti) → (∀ j, j < g_tn s → ti j = nI (g_tp s j)) → (∀ j, j < i → ti (g_tn s + j) = nI (fb a b c d e j)) → J X (8, 99) (jQ X (fun r w' => r = some (.int (sp_feed s a b c d e).1) ∧ RepM (xG X) w' o (sp_feed s a b c d e).2) 0 0) wi 0 0 23 [(0, .ref o), (1, .int a), (2, .int b), (3, .int c), (4, .int d), (5, .int e), (6, .int (nI i))] [] := by
      intro qq
      induction qq with
      | zero => intro i wi ti h1 h2; omega
      | succ qq ih =>
        intro i wi ti hi1 hi2 hMi hf1 hf2
        have tail : i < 20 → ∀ v : Int32, fb a b c d e i = byt v (i % 4) → J X (8, 99) (jQ X (fun r w' => r = some (.int (sp_feed s a b c d e).1) ∧ RepM (xG X) w' o (sp_feed s a b c d e).2) 0 0) wi 0 0 76 [(0, .ref o), (1, .int a), (2, .int b), (3, .int c), (4, .int d), (5, .int e), (6, .int (nI i))] [.int v] := by
          intro hi3 v hv
          refine j_istore (i := 7) (t := 78) (lv' := [(0, _), (1, _), (2, _), (3, _), (4, _), (5, _), (6, _), (7, _)]) C d_M_feed_76 (by decide) (by decide) rfl rfl ?_
          refine j_aload_n (i := 0) (t := 79) C d_M_feed_78 rfl rfl (by first | exact jrv_r | exact jrv_n | exact jrv_f) rfl ?_
          refine j_get (t := 82) C fl_M_7 d_M_feed_79 hMi.1 rfl rfl ?_
          refine j_aload_n (i := 0) (t := 83) C d_M_feed_82 rfl rfl (by first | exact jrv_r | exact jrv_n | exact jrv_f) rfl ?_
          refine j_get (t := 86) C fl_M_83 d_M_feed_83 hMi.1 rfl rfl ?_
          refine j_iload (t := 88) C d_M_feed_86 rfl rfl ?_
          rw [show mg_tn (mp_tape n ti) = nI (g_tn s) from r_tn]
          refine j_iadd (t := 89) C d_M_feed_88 rfl ?_
          refine j_iload (t := 91) C d_M_feed_89 rfl rfl ?_
          refine j_bipush (x := nI 24) (t := 93) C d_M_feed_91 rfl rfl ?_
          refine j_bipush (x := nI 8) (t := 95) C d_M_feed_93 rfl rfl ?_
          refine j_iload (t := 97) C d_M_feed_95 rfl rfl ?_
          refine j_iconst (x := 4) (t := 98) C d_M_feed_97 rfl rfl ?_
          refine j_irem (t := 99) C d_M_feed_98 (by decide) rfl ?_
          refine j_imul (t := 100) C d_M_feed_99 rfl ?_
          refine j_isub (t := 101) C d_M_feed_100 rfl ?_
          refine j_ishr (t := 102) C d_M_feed_101 rfl ?_
          refine j_sipush (x := nI 255) (t := 105) C d_M_feed_102 rfl rfl ?_
          refine j_iand (t := 106) C d_M_feed_105 rfl ?_
          rw [feed_v (by omega), nI_add]
          refine j_st_tape (i := g_tn s + i) (t := 107) C d_M_feed_106 hMi (by rfl) (by omega) rfl (fun w106 M106 => ?_)
          refine j_iinc (y := _ + 1) (t := 110) (lv' := [(0, _), (1, _), (2, _), (3, _), (4, _), (5, _), (6, _), (7, _)]) C d_M_feed_107 rfl rfl (by decide) (by decide) rfl rfl ?_
          refine j_goto (tgt := 23) C d_M_feed_110 (by decide) ?_
          refine j_pick [0, 1, 2, 3, 4, 5, 6] rfl ?_
          rw [nI_1]
          exact ih (i + 1) w106 _ (by omega) (by omega) M106 (fun j hj => (upd_ne (by omega)).trans (hf1 j hj)) (feed_next hf2 hv)
        refine j_iload (t := 25) C d_M_feed_23 rfl rfl ?_
        refine j_bipush (x := nI 20) (t := 27) C d_M_feed_25 rfl rfl ?_
        refine j_icmp_ge (tgt := 113) (t := 30) C d_M_feed_27 (by decide) rfl (fun h27 => ?_) (fun h27 => ?_)
        · have hi4 : i = 20 := fde h27 (by omega) (by omega) hi2
          subst hi4
          refine j_aload_n (i := 0) (t := 114) C d_M_feed_113 rfl rfl (by first | exact jrv_r | exact jrv_n | exact jrv_f) rfl ?_
          refine j_dup (t := 115) C d_M_feed_114 rfl rfl ?_
          refine j_get (t := 118) C fl_M_83 d_M_feed_115 hMi.1 rfl rfl ?_
          refine j_bipush (x := nI 20) (t := 120) C d_M_feed_118 rfl rfl ?_
          refine j_iadd (t := 121) C d_M_feed_120 rfl ?_
          rw [show mg_tn (mp_tape n ti) = nI (g_tn s) from r_tn, nI_add]
          refine j_pt_tn (t := 124) C fp_M_83 d_M_feed_121 hMi rfl (fun w121 M121 => ?_)
          refine j_iconst (x := 1) (t := 125) C d_M_feed_124 rfl rfl ?_
          exact j_iret C d_M_feed_125 (by first | rfl | exact nar_b) (by
          unfold sp_feed
          rw [if_pos ht]
          exact ⟨rfl, RepM.of M121 (relM_feed hR hf1 hf2)⟩) (by omega) (by omega)
        · have hi3 : i < 20 := fdh h27 (by omega) (by omega)
          refine j_iload (t := 32) C d_M_feed_30 rfl rfl ?_
          refine j_iconst (x := 4) (t := 33) C d_M_feed_32 rfl rfl ?_
          refine j_icmp_ge (tgt := 40) (t := 36) C d_M_feed_33 (by decide) rfl (fun h33 => ?_) (fun h33 => ?_)
          · have k1 : ¬ i < 4 := by have := fdl (n := 4) h33 (by omega) (by omega); omega
            refine j_iload (t := 42) C d_M_feed_40 rfl rfl ?_
            refine j_bipush (x := nI 8) (t := 44) C d_M_feed_42 rfl rfl ?_
            refine j_icmp_ge (tgt := 51) (t := 47) C d_M_feed_44 (by decide) rfl (fun h44 => ?_) (fun h44 => ?_)
            · have k2 : ¬ i < 8 := by have := fdl h44 (by omega) (by omega); omega
              refine j_iload (t := 53) C d_M_feed_51 rfl rfl ?_
              refine j_bipush (x := nI 12) (t := 55) C d_M_feed_53 rfl rfl ?_
              refine j_icmp_ge (tgt := 62) (t := 58) C d_M_feed_55 (by decide) rfl (fun h55 => ?_) (fun h55 => ?_)
              · have k3 : ¬ i < 12 := by have := fdl h55 (by omega) (by omega); omega
                refine j_iload (t := 64) C d_M_feed_62 rfl rfl ?_
                refine j_bipush (x := nI 16) (t := 66) C d_M_feed_64 rfl rfl ?_
                refine j_icmp_ge (tgt := 74) (t := 69) C d_M_feed_66 (by decide) rfl (fun h66 => ?_) (fun h66 => ?_)
                · have k4 : ¬ i < 16 := by have := fdl h66 (by omega) (by omega); omega
                  refine j_iload (t := 76) C d_M_feed_74 rfl rfl ?_
                  first
                  | exact tail hi3 _ (fb_0 k1)
                  | exact tail hi3 _ (fb_1 k1 k2)
                  | exact tail hi3 _ (fb_2 k2 k3)
                  | exact tail hi3 _ (fb_3 k3 k4)
                  | exact tail hi3 _ (fb_4 k4 hi3)
                · have k4 : i < 16 := fdh h66 (by omega) (by omega)
                  refine j_iload (t := 71) C d_M_feed_69 rfl rfl ?_
                  refine j_goto (tgt := 76) C d_M_feed_71 (by decide) ?_
                  first
                  | exact tail hi3 _ (fb_0 k1)
                  | exact tail hi3 _ (fb_1 k1 k2)
                  | exact tail hi3 _ (fb_2 k2 k3)
                  | exact tail hi3 _ (fb_3 k3 k4)
                  | exact tail hi3 _ (fb_4 k4 hi3)
              · have k3 : i < 12 := fdh h55 (by omega) (by omega)
                refine j_iload_n (i := 3) (t := 59) C d_M_feed_58 rfl rfl rfl ?_
                refine j_goto (tgt := 76) C d_M_feed_59 (by decide) ?_
                first
                | exact tail hi3 _ (fb_0 k1)
                | exact tail hi3 _ (fb_1 k1 k2)
                | exact tail hi3 _ (fb_2 k2 k3)
                | exact tail hi3 _ (fb_3 k3 k4)
                | exact tail hi3 _ (fb_4 k4 hi3)
            · have k2 : i < 8 := fdh h44 (by omega) (by omega)
              refine j_iload_n (i := 2) (t := 48) C d_M_feed_47 rfl rfl rfl ?_
              refine j_goto (tgt := 76) C d_M_feed_48 (by decide) ?_
              first
              | exact tail hi3 _ (fb_0 k1)
              | exact tail hi3 _ (fb_1 k1 k2)
              | exact tail hi3 _ (fb_2 k2 k3)
              | exact tail hi3 _ (fb_3 k3 k4)
              | exact tail hi3 _ (fb_4 k4 hi3)
          · have k1 : i < 4 := fdh (n := 4) h33 (by omega) (by omega)
            refine j_iload_n (i := 1) (t := 37) C d_M_feed_36 rfl rfl rfl ?_
            refine j_goto (tgt := 76) C d_M_feed_37 (by decide) ?_
            first
            | exact tail hi3 _ (fb_0 k1)
            | exact tail hi3 _ (fb_1 k1 k2)
            | exact tail hi3 _ (fb_2 k2 k3)
            | exact tail hi3 _ (fb_3 k3 k4)
            | exact tail hi3 _ (fb_4 k4 hi3)
    exact loop 21 0 w2 (mg_tape n) (by omega) (Nat.zero_le _) M2 r_tp (fun j hj => absurd hj (Nat.not_lt_zero _))
  · refine j_iconst (x := 0) (t := 19) C d_M_feed_18 rfl rfl ?_
    exact j_iret C d_M_feed_19 (by first | rfl | exact nar_b) (by
      have hn : ¬ g_tn s ≤ 980 := fun z => h15 (nI_le (by omega) (by omega))
      unfold sp_feed
      rw [if_neg hn]
      exact ⟨rfl, RepM.of M2 hR⟩) (by omega) (by omega)
