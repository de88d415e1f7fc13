set_option maxHeartbeats 4000000 in
set_option maxRecDepth 100000 in
/-- scan -/
theorem c_M_scan (l : Launch) (o : Nat) (s : jS) (x : Int32) : MC l y_M_scan b_M_scan 5 ((some .int)) 5 0 0
    (fun G w av => av = [.ref o, .int x] ∧ RepM G w o s ∧ WF s)
    (fun G w av r w' => r = some (.int (sp_scan s x).1) ∧ RepM G w' o (sp_scan s x).2) := by
  refine MC.of 99 (by decide) ?_
  intro X w av hl C hnm hp
  obtain ⟨rfl, ⟨q, m, hM, hR⟩, hW⟩ := hp
  obtain ⟨wtn, wtp, wcc, wln, wsn, wzn, wcol, wlit, wst, wzt⟩ := id hW
  refine ⟨[(0, _), (1, _)], rfl, Nat.le_of_ble_eq_true rfl, rfl, ?_⟩
  refine j_aload_n (i := 0) (t := 1) C d_M_scan_0 rfl rfl (by first | exact jrv_r | exact jrv_n | exact jrv_f) rfl ?_
  refine j_iconst (x := 0) (t := 2) C d_M_scan_1 rfl rfl ?_
  refine j_pt_cd (t := 5) C fp_M_79 d_M_scan_2 hM rfl (fun w2 M2 => ?_)
  obtain ⟨n, M2, hR⟩ : ∃ n : jM, MH (xG X) w2 o q n ∧ relM s n := ⟨_, M2, relM_cd hR⟩
  obtain ⟨⟨r_tn, r_tp⟩, ⟨r_cc, r_ln, r_sn, r_zn⟩, r_col, r_new, r_sz, r_lit, r_st, r_zt⟩ := id hR
  refine j_iload_n (i := 1) (t := 6) C d_M_scan_5 rfl rfl rfl ?_
  refine j_if_lt (tgt := 23) (t := 9) C d_M_scan_6 (by decide) rfl (fun h6 => ?_) (fun h6 => ?_)
  · refine j_iconst (x := (-1)) (t := 24) C d_M_scan_23 rfl rfl ?_
    exact j_iret C d_M_scan_24 (by first | rfl | exact nar_b) (by
          unfold sp_scan
          rw [if_neg (fun z => by
            obtain ⟨z1, z2, z3, z4⟩ := z
            first
            | exact z1 h6
            | exact Int32.not_lt.mpr z2 h13
            | exact absurd (z3.symm.trans (bI_0.mp h20)) (by decide))]
          exact ⟨rfl, RepM.of M2 hR⟩) (by omega) (by omega)
  · refine j_iload_n (i := 1) (t := 10) C d_M_scan_9 rfl rfl rfl ?_
    refine j_sipush (x := nI 1000) (t := 13) C d_M_scan_10 rfl rfl ?_
    refine j_icmp_gt (tgt := 23) (t := 16) C d_M_scan_13 (by decide) rfl (fun h13 => ?_) (fun h13 => ?_)
    · refine j_iconst (x := (-1)) (t := 24) C d_M_scan_23 rfl rfl ?_
      exact j_iret C d_M_scan_24 (by first | rfl | exact nar_b) (by
            unfold sp_scan
            rw [if_neg (fun z => by
              obtain ⟨z1, z2, z3, z4⟩ := z
              first
              | exact z1 h6
              | exact Int32.not_lt.mpr z2 h13
              | exact absurd (z3.symm.trans (bI_0.mp h20)) (by decide))]
            exact ⟨rfl, RepM.of M2 hR⟩) (by omega) (by omega)
    · refine j_aload_n (i := 0) (t := 17) C d_M_scan_16 rfl rfl (by first | exact jrv_r | exact jrv_n | exact jrv_f) rfl ?_
      refine j_callV (As := []) (t := 20) C (c_M_isCondition _ o q n s) d_M_scan_17 jb_M_isCondition ml_M_138 jv_M_isCondition M2.1 rfl rfl rfl (Nat.le_of_ble_eq_true rfl) (by decide) (by omega) (by omega) (⟨rfl, M2, hR, hW⟩) rfl (fun r17 w17 p17 => ?_)
      obtain ⟨rfl, rfl⟩ := p17
      dsimp only [jst]
      refine j_if_ne (tgt := 25) (t := 23) C d_M_scan_20 (by decide) rfl (fun h20 => ?_) (fun h20 => ?_)
      · rw [bI_0, Bool.not_eq_false] at h20
        obtain ⟨kx, hkx, rfl⟩ := nI_of h6
        have hk : kx ≤ 1000 := fdg h13 (by omega) hkx
        refine j_iconst (x := 0) (t := 26) C d_M_scan_25 rfl rfl ?_
        refine j_istore_n (i := 2) (t := 27) (lv' := [(0, _), (1, _), (2, _)]) C d_M_scan_26 rfl (by decide) (by decide) rfl rfl ?_
        have rows : shR s kx = true → J X (5, 99) (jQ X (fun r w' => r = some (.int (sp_scan s (nI kx)).1) ∧ RepM (xG X) w' o (sp_scan s (nI kx)).2) 0 0) w17 0 0 93 [(0, .ref o), (1, .int (nI kx)), (2, .int (nI (g_sn s)))] [] := by
          intro hsh
          have loop : ∀ (qq e : Nat) (wi : jw) (mi : jM), kx + 1 ≤ e + qq → e ≤ kx → MH (xG X) wi o q mi → relM (s_zt s (zI s e)) mi → (∀ j, j < e → mg_tr mi j = trv (zS s j)) → J X (5, 99) (jQ X (fun r w' => r = some (.int (sp_scan s (nI kx)).1) ∧ RepM (xG X) w' o (sp_scan s (nI kx)).2) 0 0) wi 0 0 97 [(0, .ref o), (1, .int (nI kx)), (2, .int (nI (cnt (zS s) e))), (3, .int (nI e))] [] := by
            intro qq
            induction qq with
            | zero => intro e wi mi h1 h2; omega
            | succ qq ih =>
              intro e wi mi hi1 hi2 hMi hRi htr
              refine j_iload_n (i := 3) (t := 98) C d_M_scan_97 rfl rfl rfl ?_
              refine j_iload_n (i := 1) (t := 99) C d_M_scan_98 rfl rfl rfl ?_
              refine j_icmp_ge (tgt := 156) (t := 102) C d_M_scan_99 (by decide) rfl (fun h99 => ?_) (fun h99 => ?_)
              · have hre : e = kx := fde h99 (by omega) (by omega) hi2
                subst hre
                refine j_aload_n (i := 0) (t := 157) C d_M_scan_156 rfl rfl (by first | exact jrv_r | exact jrv_n | exact jrv_f) rfl ?_
                refine j_iload_n (i := 1) (t := 158) C d_M_scan_157 rfl rfl rfl ?_
                refine j_pt_zn (t := 161) C fp_M_145 d_M_scan_158 hMi rfl (fun w158 M158 => ?_)
                refine j_iload_n (i := 2) (t := 162) C d_M_scan_161 rfl rfl rfl ?_
                exact j_iret C d_M_scan_162 (by first | rfl | exact nar_b) (by
                            unfold sp_scan
                            rw [if_pos ⟨h6, Int32.not_lt.mp h13, h20, by rw [nI_clamp (by omega)]; exact hsh⟩, nI_clamp (by omega)]
                            exact ⟨rfl, RepM.of M158 (relM_scan hRi htr)⟩) (by omega) (by omega)
              · have hr3 : e < kx := fdh h99 (by omega) (by omega)
                refine j_aload_n (i := 0) (t := 103) C d_M_scan_102 rfl rfl (by first | exact jrv_r | exact jrv_n | exact jrv_f) rfl ?_
                refine j_iload_n (i := 3) (t := 104) C d_M_scan_103 rfl rfl rfl ?_
                refine j_callV (As := [_]) (t := 107) C (c_M_condition _ o q mi (s_zt s (zI s e)) (rAt s e) (nI e)) d_M_scan_104 jb_M_condition ml_M_142 jv_M_condition hMi.1 rfl rfl rfl (Nat.le_of_ble_eq_true rfl) (by decide) (by omega) (by omega) (⟨⟨rfl, hMi, hRi, WF_zI hW h20⟩, h20, Or.inr ⟨e, rfl, by omega, rfl, fun j hj => shR_rows hsh hj hr3⟩⟩) rfl (fun r104 w104 p104 => ?_)
                obtain ⟨hr104, pl, M104⟩ := p104
                have hr' : r104 = some (.int (zS s e)) := hr104
                subst hr'
                dsimp only [jst]
                refine j_istore (i := 4) (t := 109) (lv' := [(0, _), (1, _), (2, _), (3, _), (4, _)]) C d_M_scan_107 (by decide) (by decide) rfl rfl ?_
                refine j_aload_n (i := 0) (t := 110) C d_M_scan_109 rfl rfl (by first | exact jrv_r | exact jrv_n | exact jrv_f) rfl ?_
                refine j_get (t := 113) C fl_M_73 d_M_scan_110 M104.1 rfl rfl ?_
                refine j_iload_n (i := 3) (t := 114) C d_M_scan_113 rfl rfl rfl ?_
                refine j_iload (t := 116) C d_M_scan_114 rfl rfl ?_
                refine j_iconst (x := 1) (t := 117) C d_M_scan_116 rfl rfl ?_
                refine j_icmp_ne (tgt := 124) (t := 120) C d_M_scan_117 (by decide) rfl (fun h117 => ?_) (fun h117 => ?_)
                · refine j_iload (t := 126) C d_M_scan_124 rfl rfl ?_
                  refine j_iconst (x := 2) (t := 127) C d_M_scan_126 rfl rfl ?_
                  refine j_icmp_ne (tgt := 134) (t := 130) C d_M_scan_127 (by decide) rfl (fun h127 => ?_) (fun h127 => ?_)
                  · have hv : (2 : Int32) = trv (zS s e) := by unfold trv; rw [if_neg h117, if_neg h127]
                    refine j_iconst (x := 2) (t := 135) C d_M_scan_134 rfl rfl ?_
                    refine j_st_tr (i := e) (t := 136) C d_M_scan_135 M104 (by rfl) (by omega) rfl (fun w135 M135 => ?_)
                    refine j_iload_n (i := 2) (t := 137) C d_M_scan_136 rfl rfl rfl ?_
                    refine j_iload (t := 139) C d_M_scan_137 rfl rfl ?_
                    refine j_iconst (x := 2) (t := 140) C d_M_scan_139 rfl rfl ?_
                    refine j_icmp_ne (tgt := 147) (t := 143) C d_M_scan_140 (by decide) rfl (fun h140 => ?_) (fun h140 => ?_)
                    · refine j_iconst (x := 0) (t := 148) C d_M_scan_147 rfl rfl ?_
                      refine j_iadd (t := 149) C d_M_scan_148 rfl ?_
                      refine j_istore_n (i := 2) (t := 150) (lv' := [(0, _), (1, _), (2, _), (3, _), (4, _)]) C d_M_scan_149 rfl (by decide) (by decide) rfl rfl ?_
                      refine j_iinc (y := _ + 1) (t := 153) (lv' := [(0, _), (1, _), (2, _), (3, _), (4, _)]) C d_M_scan_150 rfl rfl (by decide) (by decide) rfl rfl ?_
                      refine j_goto (tgt := 97) C d_M_scan_153 (by decide) ?_
                      refine j_pick [0, 1, 2, 3] rfl ?_
                      first
                      | (rw [nI_1, nI_1, ← cnt_t h140]; exact ih (e + 1) w135 _ (by omega) (by omega) M135 (relM_tr hRi hv) (trn htr hv))
                      | (rw [show nI (cnt (zS s) e) + 0 = nI (cnt (zS s) e) from Int32.add_zero _, nI_1, ← cnt_f h140]; exact ih (e + 1) w135 _ (by omega) (by omega) M135 (relM_tr hRi hv) (trn htr hv))
                    · refine j_iconst (x := 1) (t := 144) C d_M_scan_143 rfl rfl ?_
                      refine j_goto (tgt := 148) C d_M_scan_144 (by decide) ?_
                      refine j_iadd (t := 149) C d_M_scan_148 rfl ?_
                      refine j_istore_n (i := 2) (t := 150) (lv' := [(0, _), (1, _), (2, _), (3, _), (4, _)]) C d_M_scan_149 rfl (by decide) (by decide) rfl rfl ?_
                      refine j_iinc (y := _ + 1) (t := 153) (lv' := [(0, _), (1, _), (2, _), (3, _), (4, _)]) C d_M_scan_150 rfl rfl (by decide) (by decide) rfl rfl ?_
                      refine j_goto (tgt := 97) C d_M_scan_153 (by decide) ?_
                      refine j_pick [0, 1, 2, 3] rfl ?_
                      first
                      | (rw [nI_1, nI_1, ← cnt_t h140]; exact ih (e + 1) w135 _ (by omega) (by omega) M135 (relM_tr hRi hv) (trn htr hv))
                      | (rw [show nI (cnt (zS s) e) + 0 = nI (cnt (zS s) e) from Int32.add_zero _, nI_1, ← cnt_f h140]; exact ih (e + 1) w135 _ (by omega) (by omega) M135 (relM_tr hRi hv) (trn htr hv))
                  · have hv : (1 : Int32) = trv (zS s e) := by rw [h127]; rfl
                    refine j_iconst (x := 1) (t := 131) C d_M_scan_130 rfl rfl ?_
                    refine j_goto (tgt := 135) C d_M_scan_131 (by decide) ?_
                    refine j_st_tr (i := e) (t := 136) C d_M_scan_135 M104 (by rfl) (by omega) rfl (fun w135 M135 => ?_)
                    refine j_iload_n (i := 2) (t := 137) C d_M_scan_136 rfl rfl rfl ?_
                    refine j_iload (t := 139) C d_M_scan_137 rfl rfl ?_
                    refine j_iconst (x := 2) (t := 140) C d_M_scan_139 rfl rfl ?_
                    refine j_icmp_ne (tgt := 147) (t := 143) C d_M_scan_140 (by decide) rfl (fun h140 => ?_) (fun h140 => ?_)
                    · refine j_iconst (x := 0) (t := 148) C d_M_scan_147 rfl rfl ?_
                      refine j_iadd (t := 149) C d_M_scan_148 rfl ?_
                      refine j_istore_n (i := 2) (t := 150) (lv' := [(0, _), (1, _), (2, _), (3, _), (4, _)]) C d_M_scan_149 rfl (by decide) (by decide) rfl rfl ?_
                      refine j_iinc (y := _ + 1) (t := 153) (lv' := [(0, _), (1, _), (2, _), (3, _), (4, _)]) C d_M_scan_150 rfl rfl (by decide) (by decide) rfl rfl ?_
                      refine j_goto (tgt := 97) C d_M_scan_153 (by decide) ?_
                      refine j_pick [0, 1, 2, 3] rfl ?_
                      first
                      | (rw [nI_1, nI_1, ← cnt_t h140]; exact ih (e + 1) w135 _ (by omega) (by omega) M135 (relM_tr hRi hv) (trn htr hv))
                      | (rw [show nI (cnt (zS s) e) + 0 = nI (cnt (zS s) e) from Int32.add_zero _, nI_1, ← cnt_f h140]; exact ih (e + 1) w135 _ (by omega) (by omega) M135 (relM_tr hRi hv) (trn htr hv))
                    · refine j_iconst (x := 1) (t := 144) C d_M_scan_143 rfl rfl ?_
                      refine j_goto (tgt := 148) C d_M_scan_144 (by decide) ?_
                      refine j_iadd (t := 149) C d_M_scan_148 rfl ?_
                      refine j_istore_n (i := 2) (t := 150) (lv' := [(0, _), (1, _), (2, _), (3, _), (4, _)]) C d_M_scan_149 rfl (by decide) (by decide) rfl rfl ?_
                      refine j_iinc (y := _ + 1) (t := 153) (lv' := [(0, _), (1, _), (2, _), (3, _), (4, _)]) C d_M_scan_150 rfl rfl (by decide) (by decide) rfl rfl ?_
                      refine j_goto (tgt := 97) C d_M_scan_153 (by decide) ?_
                      refine j_pick [0, 1, 2, 3] rfl ?_
                      first
                      | (rw [nI_1, nI_1, ← cnt_t h140]; exact ih (e + 1) w135 _ (by omega) (by omega) M135 (relM_tr hRi hv) (trn htr hv))
                      | (rw [show nI (cnt (zS s) e) + 0 = nI (cnt (zS s) e) from Int32.add_zero _, nI_1, ← cnt_f h140]; exact ih (e + 1) w135 _ (by omega) (by omega) M135 (relM_tr hRi hv) (trn htr hv))
                · have hv : (0 : Int32) = trv (zS s e) := by rw [h117]; rfl
                  refine j_iconst (x := 0) (t := 121) C d_M_scan_120 rfl rfl ?_
                  refine j_goto (tgt := 135) C d_M_scan_121 (by decide) ?_
                  refine j_st_tr (i := e) (t := 136) C d_M_scan_135 M104 (by rfl) (by omega) rfl (fun w135 M135 => ?_)
                  refine j_iload_n (i := 2) (t := 137) C d_M_scan_136 rfl rfl rfl ?_
                  refine j_iload (t := 139) C d_M_scan_137 rfl rfl ?_
                  refine j_iconst (x := 2) (t := 140) C d_M_scan_139 rfl rfl ?_
                  refine j_icmp_ne (tgt := 147) (t := 143) C d_M_scan_140 (by decide) rfl (fun h140 => ?_) (fun h140 => ?_)
                  · refine j_iconst (x := 0) (t := 148) C d_M_scan_147 rfl rfl ?_
                    refine j_iadd (t := 149) C d_M_scan_148 rfl ?_
                    refine j_istore_n (i := 2) (t := 150) (lv' := [(0, _), (1, _), (2, _), (3, _), (4, _)]) C d_M_scan_149 rfl (by decide) (by decide) rfl rfl ?_
                    refine j_iinc (y := _ + 1) (t := 153) (lv' := [(0, _), (1, _), (2, _), (3, _), (4, _)]) C d_M_scan_150 rfl rfl (by decide) (by decide) rfl rfl ?_
                    refine j_goto (tgt := 97) C d_M_scan_153 (by decide) ?_
                    refine j_pick [0, 1, 2, 3] rfl ?_
                    first
                    | (rw [nI_1, nI_1, ← cnt_t h140]; exact ih (e + 1) w135 _ (by omega) (by omega) M135 (relM_tr hRi hv) (trn htr hv))
                    | (rw [show nI (cnt (zS s) e) + 0 = nI (cnt (zS s) e) from Int32.add_zero _, nI_1, ← cnt_f h140]; exact ih (e + 1) w135 _ (by omega) (by omega) M135 (relM_tr hRi hv) (trn htr hv))
                  · refine j_iconst (x := 1) (t := 144) C d_M_scan_143 rfl rfl ?_
                    refine j_goto (tgt := 148) C d_M_scan_144 (by decide) ?_
                    refine j_iadd (t := 149) C d_M_scan_148 rfl ?_
                    refine j_istore_n (i := 2) (t := 150) (lv' := [(0, _), (1, _), (2, _), (3, _), (4, _)]) C d_M_scan_149 rfl (by decide) (by decide) rfl rfl ?_
                    refine j_iinc (y := _ + 1) (t := 153) (lv' := [(0, _), (1, _), (2, _), (3, _), (4, _)]) C d_M_scan_150 rfl rfl (by decide) (by decide) rfl rfl ?_
                    refine j_goto (tgt := 97) C d_M_scan_153 (by decide) ?_
                    refine j_pick [0, 1, 2, 3] rfl ?_
                    first
                    | (rw [nI_1, nI_1, ← cnt_t h140]; exact ih (e + 1) w135 _ (by omega) (by omega) M135 (relM_tr hRi hv) (trn htr hv))
                    | (rw [show nI (cnt (zS s) e) + 0 = nI (cnt (zS s) e) from Int32.add_zero _, nI_1, ← cnt_f h140]; exact ih (e + 1) w135 _ (by omega) (by omega) M135 (relM_tr hRi hv) (trn htr hv))
          refine j_iconst (x := 0) (t := 94) C d_M_scan_93 rfl rfl ?_
          refine j_istore_n (i := 2) (t := 95) (lv' := [(0, _), (1, _), (2, _)]) C d_M_scan_94 rfl (by decide) (by decide) rfl rfl ?_
          refine j_iconst (x := 0) (t := 96) C d_M_scan_95 rfl rfl ?_
          refine j_istore_n (i := 3) (t := 97) (lv' := [(0, _), (1, _), (2, _), (3, _)]) C d_M_scan_96 rfl (by decide) (by decide) rfl rfl ?_
          exact loop (kx + 1) 0 _ n (by omega) (Nat.zero_le _) M2 (relM_zI0 hR) (fun j hj => absurd hj (Nat.not_lt_zero _))
        have loop : ∀ (qq i : Nat), g_sn s + 1 ≤ i + qq → i ≤ g_sn s → shI s kx i = true → J X (5, 99) (jQ X (fun r w' => r = some (.int (sp_scan s (nI kx)).1) ∧ RepM (xG X) w' o (sp_scan s (nI kx)).2) 0 0) w17 0 0 27 [(0, .ref o), (1, .int (nI kx)), (2, .int (nI i))] [] := by
          intro qq
          induction qq with
          | zero => intro i h1 h2; omega
          | succ qq ih =>
            intro i hi1 hi2 hsh
            refine j_iload_n (i := 2) (t := 28) C d_M_scan_27 rfl rfl rfl ?_
            refine j_aload_n (i := 0) (t := 29) C d_M_scan_28 rfl rfl (by first | exact jrv_r | exact jrv_n | exact jrv_f) rfl ?_
            refine j_get (t := 32) C fl_M_109 d_M_scan_29 M2.1 rfl rfl ?_
            rw [r_sn]
            refine j_icmp_ge (tgt := 93) (t := 35) C d_M_scan_32 (by decide) rfl (fun h32 => ?_) (fun h32 => ?_)
            · have hie : i = g_sn s := fde h32 (by omega) (by omega) hi2
              subst hie
              exact rows hsh
            · have hi : i < g_sn s := fdh h32 (by omega) (by omega)
              have hkd := (r_st i hi).1
              have hst := wst i hi
              refine j_aload_n (i := 0) (t := 36) C d_M_scan_35 rfl rfl (by first | exact jrv_r | exact jrv_n | exact jrv_f) rfl ?_
              refine j_get (t := 39) C fl_M_58 d_M_scan_36 M2.1 rfl rfl ?_
              refine j_iload_n (i := 2) (t := 40) C d_M_scan_39 rfl rfl rfl ?_
              refine j_ld_kd (i := i) (t := 41) C d_M_scan_40 M2 (by first | rfl | simp only [nI_add, nI_mul, nI_1]) (by omega) (hkd) rfl ?_
              refine j_iconst (x := 5) (t := 42) C d_M_scan_41 rfl rfl ?_
              refine j_icmp_ge (tgt := 60) (t := 45) C d_M_scan_42 (by decide) rfl (fun h42 => ?_) (fun h42 => ?_)
              · have e1 : g_sk s i < 5 → kx ≤ g_rc s (g_sc s i) := fun z => by first | exact absurd z (Int32.not_lt.mpr h42) | exact fdg h57 (by omega) (by omega)
                refine j_aload_n (i := 0) (t := 61) C d_M_scan_60 rfl rfl (by first | exact jrv_r | exact jrv_n | exact jrv_f) rfl ?_
                refine j_get (t := 64) C fl_M_58 d_M_scan_61 M2.1 rfl rfl ?_
                refine j_iload_n (i := 2) (t := 65) C d_M_scan_64 rfl rfl rfl ?_
                refine j_ld_kd (i := i) (t := 66) C d_M_scan_65 M2 (by first | rfl | simp only [nI_add, nI_mul, nI_1]) (by omega) (hkd) rfl ?_
                refine j_iconst (x := 4) (t := 67) C d_M_scan_66 rfl rfl ?_
                refine j_icmp_ne (tgt := 87) (t := 70) C d_M_scan_67 (by decide) rfl (fun h67 => ?_) (fun h67 => ?_)
                · refine j_iinc (y := _ + 1) (t := 90) (lv' := [(0, _), (1, _), (2, _)]) C d_M_scan_87 rfl rfl (by decide) (by decide) rfl rfl ?_
                  refine j_goto (tgt := 27) C d_M_scan_90 (by decide) ?_
                  rw [nI_1]
                  exact ih (i + 1) (by omega) (by omega) (shI_n hsh e1 (fun z => by first | exact absurd z h67 | (rw [hoP]; exact fdl h82 (by omega) (by omega))))
                · obtain ⟨-, P, hP, hPc, -⟩ := hst.2.2.2.2 h67
                  have hoP : oP s i = P := by show (g_sp s i).toNatClampNeg = P; rw [hP, nI_clamp (by omega)]
                  have hrP := (wcol _ hPc).2.1
                  refine j_aload_n (i := 0) (t := 71) C d_M_scan_70 rfl rfl (by first | exact jrv_r | exact jrv_n | exact jrv_f) rfl ?_
                  refine j_get (t := 74) C fl_M_30 d_M_scan_71 M2.1 rfl rfl ?_
                  refine j_aload_n (i := 0) (t := 75) C d_M_scan_74 rfl rfl (by first | exact jrv_r | exact jrv_n | exact jrv_f) rfl ?_
                  refine j_get (t := 78) C fl_M_67 d_M_scan_75 M2.1 rfl rfl ?_
                  refine j_iload_n (i := 2) (t := 79) C d_M_scan_78 rfl rfl rfl ?_
                  refine j_ld_ot (i := i) (t := 80) C d_M_scan_79 M2 (by first | rfl | simp only [nI_add, nI_mul, nI_1]) (by omega) ((r_st i hi).2.2.2.1) rfl ?_
                  refine j_ld_cnt (i := P) (t := 81) C d_M_scan_80 M2 (by exact hP) (by omega) ((r_col P hPc).2.1) rfl ?_
                  refine j_iload_n (i := 1) (t := 82) C d_M_scan_81 rfl rfl rfl ?_
                  refine j_icmp_ge (tgt := 87) (t := 85) C d_M_scan_82 (by decide) rfl (fun h82 => ?_) (fun h82 => ?_)
                  · refine j_iinc (y := _ + 1) (t := 90) (lv' := [(0, _), (1, _), (2, _)]) C d_M_scan_87 rfl rfl (by decide) (by decide) rfl rfl ?_
                    refine j_goto (tgt := 27) C d_M_scan_90 (by decide) ?_
                    rw [nI_1]
                    exact ih (i + 1) (by omega) (by omega) (shI_n hsh e1 (fun z => by first | exact absurd z h67 | (rw [hoP]; exact fdl h82 (by omega) (by omega))))
                  · refine j_iconst (x := (-1)) (t := 86) C d_M_scan_85 rfl rfl ?_
                    exact j_iret C d_M_scan_86 (by first | rfl | exact nar_b) (by
                                have hf : shR s kx = false := by
                                  first
                                  | exact shI_f1 hi h5 ((nI_ltI (by omega) (by omega)).mp h57)
                                  | exact shI_f2 hi h67 hoP (fdh h82 (by omega) (by omega))
                                unfold sp_scan
                                rw [if_neg (fun z => by
                                  obtain ⟨-, -, -, z4⟩ := z
                                  rw [nI_clamp (by omega), hf] at z4
                                  cases z4)]
                                exact ⟨rfl, RepM.of M2 hR⟩) (by omega) (by omega)
              · have h5 : g_sk s i < 5 := Int32.not_le.mp h42
                have hc := hst.2.1 h5
                have hrc := (wcol _ hc).2.1
                refine j_aload_n (i := 0) (t := 46) C d_M_scan_45 rfl rfl (by first | exact jrv_r | exact jrv_n | exact jrv_f) rfl ?_
                refine j_get (t := 49) C fl_M_30 d_M_scan_46 M2.1 rfl rfl ?_
                refine j_aload_n (i := 0) (t := 50) C d_M_scan_49 rfl rfl (by first | exact jrv_r | exact jrv_n | exact jrv_f) rfl ?_
                refine j_get (t := 53) C fl_M_61 d_M_scan_50 M2.1 rfl rfl ?_
                refine j_iload_n (i := 2) (t := 54) C d_M_scan_53 rfl rfl rfl ?_
                refine j_ld_fi (i := i) (t := 55) C d_M_scan_54 M2 (by first | rfl | simp only [nI_add, nI_mul, nI_1]) (by omega) ((r_st i hi).2.1 h5) rfl ?_
                refine j_ld_cnt (i := g_sc s i) (t := 56) C d_M_scan_55 M2 (by first | rfl | simp only [nI_add, nI_mul, nI_1]) (by omega) ((r_col _ hc).2.1) rfl ?_
                refine j_iload_n (i := 1) (t := 57) C d_M_scan_56 rfl rfl rfl ?_
                refine j_icmp_lt (tgt := 85) (t := 60) C d_M_scan_57 (by decide) rfl (fun h57 => ?_) (fun h57 => ?_)
                · refine j_iconst (x := (-1)) (t := 86) C d_M_scan_85 rfl rfl ?_
                  exact j_iret C d_M_scan_86 (by first | rfl | exact nar_b) (by
                              have hf : shR s kx = false := by
                                first
                                | exact shI_f1 hi h5 ((nI_ltI (by omega) (by omega)).mp h57)
                                | exact shI_f2 hi h67 hoP (fdh h82 (by omega) (by omega))
                              unfold sp_scan
                              rw [if_neg (fun z => by
                                obtain ⟨-, -, -, z4⟩ := z
                                rw [nI_clamp (by omega), hf] at z4
                                cases z4)]
                              exact ⟨rfl, RepM.of M2 hR⟩) (by omega) (by omega)
                · have e1 : g_sk s i < 5 → kx ≤ g_rc s (g_sc s i) := fun z => by first | exact absurd z (Int32.not_lt.mpr h42) | exact fdg h57 (by omega) (by omega)
                  refine j_aload_n (i := 0) (t := 61) C d_M_scan_60 rfl rfl (by first | exact jrv_r | exact jrv_n | exact jrv_f) rfl ?_
                  refine j_get (t := 64) C fl_M_58 d_M_scan_61 M2.1 rfl rfl ?_
                  refine j_iload_n (i := 2) (t := 65) C d_M_scan_64 rfl rfl rfl ?_
                  refine j_ld_kd (i := i) (t := 66) C d_M_scan_65 M2 (by first | rfl | simp only [nI_add, nI_mul, nI_1]) (by omega) (hkd) rfl ?_
                  refine j_iconst (x := 4) (t := 67) C d_M_scan_66 rfl rfl ?_
                  refine j_icmp_ne (tgt := 87) (t := 70) C d_M_scan_67 (by decide) rfl (fun h67 => ?_) (fun h67 => ?_)
                  · refine j_iinc (y := _ + 1) (t := 90) (lv' := [(0, _), (1, _), (2, _)]) C d_M_scan_87 rfl rfl (by decide) (by decide) rfl rfl ?_
                    refine j_goto (tgt := 27) C d_M_scan_90 (by decide) ?_
                    rw [nI_1]
                    exact ih (i + 1) (by omega) (by omega) (shI_n hsh e1 (fun z => by first | exact absurd z h67 | (rw [hoP]; exact fdl h82 (by omega) (by omega))))
                  · obtain ⟨-, P, hP, hPc, -⟩ := hst.2.2.2.2 h67
                    have hoP : oP s i = P := by show (g_sp s i).toNatClampNeg = P; rw [hP, nI_clamp (by omega)]
                    have hrP := (wcol _ hPc).2.1
                    refine j_aload_n (i := 0) (t := 71) C d_M_scan_70 rfl rfl (by first | exact jrv_r | exact jrv_n | exact jrv_f) rfl ?_
                    refine j_get (t := 74) C fl_M_30 d_M_scan_71 M2.1 rfl rfl ?_
                    refine j_aload_n (i := 0) (t := 75) C d_M_scan_74 rfl rfl (by first | exact jrv_r | exact jrv_n | exact jrv_f) rfl ?_
                    refine j_get (t := 78) C fl_M_67 d_M_scan_75 M2.1 rfl rfl ?_
                    refine j_iload_n (i := 2) (t := 79) C d_M_scan_78 rfl rfl rfl ?_
                    refine j_ld_ot (i := i) (t := 80) C d_M_scan_79 M2 (by first | rfl | simp only [nI_add, nI_mul, nI_1]) (by omega) ((r_st i hi).2.2.2.1) rfl ?_
                    refine j_ld_cnt (i := P) (t := 81) C d_M_scan_80 M2 (by exact hP) (by omega) ((r_col P hPc).2.1) rfl ?_
                    refine j_iload_n (i := 1) (t := 82) C d_M_scan_81 rfl rfl rfl ?_
                    refine j_icmp_ge (tgt := 87) (t := 85) C d_M_scan_82 (by decide) rfl (fun h82 => ?_) (fun h82 => ?_)
                    · refine j_iinc (y := _ + 1) (t := 90) (lv' := [(0, _), (1, _), (2, _)]) C d_M_scan_87 rfl rfl (by decide) (by decide) rfl rfl ?_
                      refine j_goto (tgt := 27) C d_M_scan_90 (by decide) ?_
                      rw [nI_1]
                      exact ih (i + 1) (by omega) (by omega) (shI_n hsh e1 (fun z => by first | exact absurd z h67 | (rw [hoP]; exact fdl h82 (by omega) (by omega))))
                    · refine j_iconst (x := (-1)) (t := 86) C d_M_scan_85 rfl rfl ?_
                      exact j_iret C d_M_scan_86 (by first | rfl | exact nar_b) (by
                                  have hf : shR s kx = false := by
                                    first
                                    | exact shI_f1 hi h5 ((nI_ltI (by omega) (by omega)).mp h57)
                                    | exact shI_f2 hi h67 hoP (fdh h82 (by omega) (by omega))
                                  unfold sp_scan
                                  rw [if_neg (fun z => by
                                    obtain ⟨-, -, -, z4⟩ := z
                                    rw [nI_clamp (by omega), hf] at z4
                                    cases z4)]
                                  exact ⟨rfl, RepM.of M2 hR⟩) (by omega) (by omega)
        exact loop (g_sn s + 1) 0 (by omega) (Nat.zero_le _) rfl
      · refine j_iconst (x := (-1)) (t := 24) C d_M_scan_23 rfl rfl ?_
        exact j_iret C d_M_scan_24 (by first | rfl | exact nar_b) (by
              unfold sp_scan
              rw [if_neg (fun z => by
                obtain ⟨z1, z2, z3, z4⟩ := z
                first
                | exact z1 h6
                | exact Int32.not_lt.mpr z2 h13
                | exact absurd (z3.symm.trans (bI_0.mp h20)) (by decide))]
              exact ⟨rfl, RepM.of M2 hR⟩) (by omega) (by omega)
