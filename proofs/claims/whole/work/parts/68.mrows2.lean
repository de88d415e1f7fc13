set_option maxHeartbeats 4000000 in
set_option maxRecDepth 100000 in
/-- miss -/
theorem c_M_miss (l : Launch) (o : Nat) (s : jS) (x : Int32) (a : Int32) : MC l y_M_miss b_M_miss 4 ((some .boolean)) 1 0 0
    (fun G w av => av = [.ref o, .int x, .int a] ∧ RepM G w o s ∧ WF s)
    (fun G w av r w' => r = some (.int (sp_miss s x a).1) ∧ RepM G w' o (sp_miss s x a).2) := by
  refine MC.of 99 (by decide) ?_
  intro X w av hl C hnm hp
  obtain ⟨rfl, ⟨q, m, hM, hR⟩, hW⟩ := hp
  obtain ⟨wtn, wtp, wcc, wln, wsn, wzn, wcol, wlit, wst, wzt⟩ := id hW
  refine ⟨[(0, _), (1, _), (2, _)], rfl, Nat.le_of_ble_eq_true rfl, rfl, ?_⟩
  refine j_aload_n (i := 0) (t := 1) C d_M_miss_0 rfl rfl (by first | exact jrv_r | exact jrv_n | exact jrv_f) rfl ?_
  refine j_iconst (x := 0) (t := 2) C d_M_miss_1 rfl rfl ?_
  refine j_pt_cd (t := 5) C fp_M_79 d_M_miss_2 hM rfl (fun w2 M2 => ?_)
  obtain ⟨n, M2, hR⟩ : ∃ n : jM, MH (xG X) w2 o q n ∧ relM s n := ⟨_, M2, relM_cd hR⟩
  obtain ⟨⟨r_tn, r_tp⟩, ⟨r_cc, r_ln, r_sn, r_zn⟩, r_col, r_new, r_sz, r_lit, r_st, r_zt⟩ := id hR
  refine j_aload_n (i := 0) (t := 6) C d_M_miss_5 rfl rfl (by first | exact jrv_r | exact jrv_n | exact jrv_f) rfl ?_
  refine j_iload_n (i := 1) (t := 7) C d_M_miss_6 rfl rfl rfl ?_
  refine j_callV (As := [_]) (t := 10) C (c_M_isColumn _ o q n s x) d_M_miss_7 jb_M_isColumn ml_M_89 jv_M_isColumn M2.1 rfl rfl rfl (Nat.le_of_ble_eq_true rfl) (by decide) (by omega) (by omega) (⟨rfl, M2, r_cc⟩) rfl (fun r7 w7 p7 => ?_)
  obtain ⟨rfl, rfl⟩ := p7
  dsimp only [jst]
  refine j_if_eq (tgt := 32) (t := 13) C d_M_miss_10 (by decide) rfl (fun h10 => ?_) (fun h10 => ?_)
  · refine j_iconst (x := 0) (t := 33) C d_M_miss_32 rfl rfl ?_
    exact j_iret C d_M_miss_33 (by first | rfl | exact nar_b) (by
          first
          | (rw [miss_n (ci_none h10)]; exact ⟨rfl, RepM.of M2 hR⟩)
          | (rw [miss_f hcx (fun z => Int32.not_lt.mpr (rm_1 z) h15)]; exact ⟨rfl, RepM.of M2 hR⟩)
          | (rw [miss_f hcx (fun z => h29 (rm_2 z))]; exact ⟨rfl, RepM.of M2 hR⟩)
          | (rw [miss_f hcx (fun z => absurd (z.1.symm.trans (bI_0.mp h44)) (by decide))]; exact ⟨rfl, RepM.of M2 hR⟩)) (by omega) (by omega)
  · obtain ⟨c, hcx⟩ := ci_some h10
    obtain ⟨hc, rfl⟩ := cix_some wcc hcx
    have hrc := (wcol c hc).2.1
    refine j_iload_n (i := 2) (t := 14) C d_M_miss_13 rfl rfl rfl ?_
    refine j_iconst (x := 1) (t := 15) C d_M_miss_14 rfl rfl ?_
    refine j_icmp_lt (tgt := 32) (t := 18) C d_M_miss_15 (by decide) rfl (fun h15 => ?_) (fun h15 => ?_)
    · refine j_iconst (x := 0) (t := 33) C d_M_miss_32 rfl rfl ?_
      exact j_iret C d_M_miss_33 (by first | rfl | exact nar_b) (by
            first
            | (rw [miss_n (ci_none h10)]; exact ⟨rfl, RepM.of M2 hR⟩)
            | (rw [miss_f hcx (fun z => Int32.not_lt.mpr (rm_1 z) h15)]; exact ⟨rfl, RepM.of M2 hR⟩)
            | (rw [miss_f hcx (fun z => h29 (rm_2 z))]; exact ⟨rfl, RepM.of M2 hR⟩)
            | (rw [miss_f hcx (fun z => absurd (z.1.symm.trans (bI_0.mp h44)) (by decide))]; exact ⟨rfl, RepM.of M2 hR⟩)) (by omega) (by omega)
    · refine j_iload_n (i := 2) (t := 19) C d_M_miss_18 rfl rfl rfl ?_
      refine j_sipush (x := nI 1000) (t := 22) C d_M_miss_19 rfl rfl ?_
      refine j_aload_n (i := 0) (t := 23) C d_M_miss_22 rfl rfl (by first | exact jrv_r | exact jrv_n | exact jrv_f) rfl ?_
      refine j_get (t := 26) C fl_M_30 d_M_miss_23 M2.1 rfl rfl ?_
      refine j_iload_n (i := 1) (t := 27) C d_M_miss_26 rfl rfl rfl ?_
      refine j_ld_cnt (i := c) (t := 28) C d_M_miss_27 M2 (by first | rfl | simp only [nI_add, nI_mul, nI_1]) (by omega) ((r_col c hc).2.1) rfl ?_
      refine j_isub (t := 29) C d_M_miss_28 rfl ?_
      refine j_icmp_le (tgt := 34) (t := 32) C d_M_miss_29 (by decide) rfl (fun h29 => ?_) (fun h29 => ?_)
      · have hrm : rmOK s c a = true := by simp only [rmOK, Bool.and_eq_true, decide_eq_true_eq]; exact ⟨Int32.not_lt.mp h15, h29⟩
        obtain ⟨A, rfl, hA1, hA2⟩ := rm_ok hrc hrm
        refine j_iconst (x := 0) (t := 35) C d_M_miss_34 rfl rfl ?_
        refine j_istore_n (i := 3) (t := 36) (lv' := [(0, _), (1, _), (2, _), (3, _)]) C d_M_miss_35 rfl (by decide) (by decide) rfl rfl ?_
        have loop : ∀ (qq k : Nat) (wi : jw) (mi : jM), A + 1 ≤ k + qq → k ≤ A → MH (xG X) wi o q mi → relM (addRows s c k none) mi → J X (4, 99) (jQ X (fun r w' => r = some (.int (sp_miss s (nI c) (nI A)).1) ∧ RepM (xG X) w' o (sp_miss s (nI c) (nI A)).2) 0 0) wi 0 0 36 [(0, .ref o), (1, .int (nI c)), (2, .int (nI A)), (3, .int (nI k))] [] := by
          intro qq
          induction qq with
          | zero => intro k wi mi h1 h2; omega
          | succ qq ih =>
            intro k wi mi hi1 hi2 hMi hRi
            refine j_iload_n (i := 3) (t := 37) C d_M_miss_36 rfl rfl rfl ?_
            refine j_iload_n (i := 2) (t := 38) C d_M_miss_37 rfl rfl rfl ?_
            refine j_icmp_ge (tgt := 75) (t := 41) C d_M_miss_38 (by decide) rfl (fun h38 => ?_) (fun h38 => ?_)
            · have hke : k = A := fde h38 (by omega) (by omega) hi2
              subst hke
              refine j_iconst (x := 1) (t := 76) C d_M_miss_75 rfl rfl ?_
              exact j_iret C d_M_miss_76 (by first | rfl | exact nar_b) (by
                        rw [miss_t hcx hrm, nI_clamp (by omega)]
                        exact ⟨rfl, RepM.of hMi hRi⟩) (by omega) (by omega)
            · have hk3 : k < A := fdh h38 (by omega) (by omega)
              obtain ⟨t, ht⟩ : ∃ t, t = addRows s c k none := ⟨_, rfl⟩
              rw [← ht] at hRi
              have hrt : g_rc t c = g_rc s c + k := by rw [ht, ar_rc]
              have hct : c < g_cc t := by rw [ht]; exact hc
              have hWt : WF t := by rw [ht]; exact WF_rows hW (by omega) (fun y z => by cases z) (by have := (wcol c hc).2.2.1; simp only [vlen, List.length_nil]; omega)
              have hcnt := (hRi.2.2.1 c hct).2.1
              have h16 : c < 16 := by omega
              refine j_aload_n (i := 0) (t := 42) C d_M_miss_41 rfl rfl (by first | exact jrv_r | exact jrv_n | exact jrv_f) rfl ?_
              refine j_get (t := 45) C fl_M_52 d_M_miss_42 hMi.1 rfl rfl ?_
              refine j_sipush (x := nI 1000) (t := 48) C d_M_miss_45 rfl rfl ?_
              refine j_iload_n (i := 1) (t := 49) C d_M_miss_48 rfl rfl rfl ?_
              refine j_imul (t := 50) C d_M_miss_49 rfl ?_
              refine j_aload_n (i := 0) (t := 51) C d_M_miss_50 rfl rfl (by first | exact jrv_r | exact jrv_n | exact jrv_f) rfl ?_
              refine j_get (t := 54) C fl_M_30 d_M_miss_51 hMi.1 rfl rfl ?_
              refine j_iload_n (i := 1) (t := 55) C d_M_miss_54 rfl rfl rfl ?_
              refine j_ld_cnt (i := c) (t := 56) C d_M_miss_55 hMi (by first | rfl | simp only [nI_add, nI_mul, nI_1]) (by omega) (hcnt) rfl ?_
              refine j_iadd (t := 57) C d_M_miss_56 rfl ?_
              refine j_iconst (x := 0) (t := 58) C d_M_miss_57 rfl rfl ?_
              refine j_st_has (i := 1000 * c + g_rc t c) (t := 59) C d_M_miss_58 hMi (by rw [nI_mul, nI_add]) (by omega) rfl rfl (fun w58 M58 => ?_)
              refine j_aload_n (i := 0) (t := 60) C d_M_miss_59 rfl rfl (by first | exact jrv_r | exact jrv_n | exact jrv_f) rfl ?_
              refine j_get (t := 63) C fl_M_30 d_M_miss_60 M58.1 rfl rfl ?_
              refine j_iload_n (i := 1) (t := 64) C d_M_miss_63 rfl rfl rfl ?_
              refine j_dup2 (t := 65) C d_M_miss_64 rfl rfl rfl ?_
              refine j_ld_cnt (i := c) (t := 66) C d_M_miss_65 M58 (by first | rfl | simp only [nI_add, nI_mul, nI_1]) (by omega) (hcnt) rfl ?_
              refine j_iconst (x := 1) (t := 67) C d_M_miss_66 rfl rfl ?_
              refine j_iadd (t := 68) C d_M_miss_67 rfl ?_
              rw [nI_1]
              refine j_st_cnt (i := c) (t := 69) C d_M_miss_68 M58 (by rfl) (by omega) rfl (fun w68 M68 => ?_)
              refine j_iinc (y := _ + 1) (t := 72) (lv' := [(0, _), (1, _), (2, _), (3, _)]) C d_M_miss_69 rfl rfl (by decide) (by decide) rfl rfl ?_
              refine j_goto (tgt := 36) C d_M_miss_72 (by decide) ?_
              rw [nI_1]
              have hz := relM_miss1 hRi hWt hct (by omega)
              rw [show addRows t c 1 none = addRows s c (k + 1) none by rw [ht]; exact addRows_s] at hz
              exact ih (k + 1) w68 _ (by omega) (by omega) M68 hz
        exact loop (A + 1) 0 _ n (by omega) (Nat.zero_le _) M2 (by rw [addRows_0]; exact hR)
      · refine j_iconst (x := 0) (t := 33) C d_M_miss_32 rfl rfl ?_
        exact j_iret C d_M_miss_33 (by first | rfl | exact nar_b) (by
              first
              | (rw [miss_n (ci_none h10)]; exact ⟨rfl, RepM.of M2 hR⟩)
              | (rw [miss_f hcx (fun z => Int32.not_lt.mpr (rm_1 z) h15)]; exact ⟨rfl, RepM.of M2 hR⟩)
              | (rw [miss_f hcx (fun z => h29 (rm_2 z))]; exact ⟨rfl, RepM.of M2 hR⟩)
              | (rw [miss_f hcx (fun z => absurd (z.1.symm.trans (bI_0.mp h44)) (by decide))]; exact ⟨rfl, RepM.of M2 hR⟩)) (by omega) (by omega)

set_option maxHeartbeats 4000000 in
set_option maxRecDepth 100000 in
/-- add -/
theorem c_M_add (l : Launch) (o : Nat) (s : jS) (x : Int32) (v : Int64) (a : Int32) : MC l y_M_add b_M_add 6 ((some .boolean)) 1 0 0
    (fun G w av => av = [.ref o, .int x, .long v, .int a] ∧ RepM G w o s ∧ WF s)
    (fun G w av r w' => r = some (.int (sp_add s x v a).1) ∧ RepM G w' o (sp_add s x v a).2) := by
  refine MC.of 2 (by decide) ?_
  intro X w av hl C hnm hp
  obtain ⟨rfl, ⟨q, m, hM, hR⟩, hW⟩ := hp
  obtain ⟨wtn, wtp, wcc, wln, wsn, wzn, wcol, wlit, wst, wzt⟩ := id hW
  refine ⟨[(0, _), (1, _), (2, _), (4, _)], rfl, Nat.le_of_ble_eq_true rfl, rfl, ?_⟩
  refine j_aload_n (i := 0) (t := 1) C d_M_add_0 rfl rfl (by first | exact jrv_r | exact jrv_n | exact jrv_f) rfl ?_
  refine j_iconst (x := 0) (t := 2) C d_M_add_1 rfl rfl ?_
  refine j_pt_cd (t := 5) C fp_M_79 d_M_add_2 hM rfl (fun w2 M2 => ?_)
  obtain ⟨n, M2, hR⟩ : ∃ n : jM, MH (xG X) w2 o q n ∧ relM s n := ⟨_, M2, relM_cd hR⟩
  obtain ⟨⟨r_tn, r_tp⟩, ⟨r_cc, r_ln, r_sn, r_zn⟩, r_col, r_new, r_sz, r_lit, r_st, r_zt⟩ := id hR
  refine j_aload_n (i := 0) (t := 6) C d_M_add_5 rfl rfl (by first | exact jrv_r | exact jrv_n | exact jrv_f) rfl ?_
  refine j_iload_n (i := 1) (t := 7) C d_M_add_6 rfl rfl rfl ?_
  refine j_callV (As := [_]) (t := 10) C (c_M_isColumn _ o q n s x) d_M_add_7 jb_M_isColumn ml_M_89 jv_M_isColumn M2.1 rfl rfl rfl (Nat.le_of_ble_eq_true rfl) (by decide) (by omega) (by omega) (⟨rfl, M2, r_cc⟩) rfl (fun r7 w7 p7 => ?_)
  obtain ⟨rfl, rfl⟩ := p7
  dsimp only [jst]
  refine j_if_eq (tgt := 47) (t := 13) C d_M_add_10 (by decide) rfl (fun h10 => ?_) (fun h10 => ?_)
  · refine j_iconst (x := 0) (t := 48) C d_M_add_47 rfl rfl ?_
    exact j_iret C d_M_add_48 (by first | rfl | exact nar_b) (by
          first
          | (rw [add_n (ci_none h10)]; exact ⟨rfl, RepM.of M2 hR⟩)
          | (rw [add_f hcx (fun z => Int32.not_lt.mpr (rm_1 z.2) h16)]; exact ⟨rfl, RepM.of M2 hR⟩)
          | (rw [add_f hcx (fun z => Int32.not_lt.mpr (rm_2 z.2) h31)]; exact ⟨rfl, RepM.of M2 hR⟩)
          | (rw [add_f hcx (fun z => absurd (z.1.symm.trans (bI_0.mp h44)) (by decide))]; exact ⟨rfl, RepM.of M2 hR⟩)) (by omega) (by omega)
  · obtain ⟨c, hcx⟩ := ci_some h10
    obtain ⟨hc, rfl⟩ := cix_some wcc hcx
    have hrc := (wcol c hc).2.1
    refine j_iload (t := 15) C d_M_add_13 rfl rfl ?_
    refine j_iconst (x := 1) (t := 16) C d_M_add_15 rfl rfl ?_
    refine j_icmp_lt (tgt := 47) (t := 19) C d_M_add_16 (by decide) rfl (fun h16 => ?_) (fun h16 => ?_)
    · refine j_iconst (x := 0) (t := 48) C d_M_add_47 rfl rfl ?_
      exact j_iret C d_M_add_48 (by first | rfl | exact nar_b) (by
            first
            | (rw [add_n (ci_none h10)]; exact ⟨rfl, RepM.of M2 hR⟩)
            | (rw [add_f hcx (fun z => Int32.not_lt.mpr (rm_1 z.2) h16)]; exact ⟨rfl, RepM.of M2 hR⟩)
            | (rw [add_f hcx (fun z => Int32.not_lt.mpr (rm_2 z.2) h31)]; exact ⟨rfl, RepM.of M2 hR⟩)
            | (rw [add_f hcx (fun z => absurd (z.1.symm.trans (bI_0.mp h44)) (by decide))]; exact ⟨rfl, RepM.of M2 hR⟩)) (by omega) (by omega)
    · refine j_iload (t := 21) C d_M_add_19 rfl rfl ?_
      refine j_sipush (x := nI 1000) (t := 24) C d_M_add_21 rfl rfl ?_
      refine j_aload_n (i := 0) (t := 25) C d_M_add_24 rfl rfl (by first | exact jrv_r | exact jrv_n | exact jrv_f) rfl ?_
      refine j_get (t := 28) C fl_M_30 d_M_add_25 M2.1 rfl rfl ?_
      refine j_iload_n (i := 1) (t := 29) C d_M_add_28 rfl rfl rfl ?_
      refine j_ld_cnt (i := c) (t := 30) C d_M_add_29 M2 (by first | rfl | simp only [nI_add, nI_mul, nI_1]) (by omega) ((r_col c hc).2.1) rfl ?_
      refine j_isub (t := 31) C d_M_add_30 rfl ?_
      refine j_icmp_gt (tgt := 47) (t := 34) C d_M_add_31 (by decide) rfl (fun h31 => ?_) (fun h31 => ?_)
      · refine j_iconst (x := 0) (t := 48) C d_M_add_47 rfl rfl ?_
        exact j_iret C d_M_add_48 (by first | rfl | exact nar_b) (by
              first
              | (rw [add_n (ci_none h10)]; exact ⟨rfl, RepM.of M2 hR⟩)
              | (rw [add_f hcx (fun z => Int32.not_lt.mpr (rm_1 z.2) h16)]; exact ⟨rfl, RepM.of M2 hR⟩)
              | (rw [add_f hcx (fun z => Int32.not_lt.mpr (rm_2 z.2) h31)]; exact ⟨rfl, RepM.of M2 hR⟩)
              | (rw [add_f hcx (fun z => absurd (z.1.symm.trans (bI_0.mp h44)) (by decide))]; exact ⟨rfl, RepM.of M2 hR⟩)) (by omega) (by omega)
      · refine j_aload_n (i := 0) (t := 35) C d_M_add_34 rfl rfl (by first | exact jrv_r | exact jrv_n | exact jrv_f) rfl ?_
        refine j_get (t := 38) C fl_M_27 d_M_add_35 M2.1 rfl rfl ?_
        refine j_iload_n (i := 1) (t := 39) C d_M_add_38 rfl rfl rfl ?_
        refine j_ld_ty (i := c) (t := 40) C d_M_add_39 M2 (by first | rfl | simp only [nI_add, nI_mul, nI_1]) (by omega) ((r_col c hc).1) rfl ?_
        refine j_lload_n (i := 2) (t := 41) C d_M_add_40 rfl rfl rfl ?_
        refine j_callS (As := [_, _]) (t := 44) C (c_M_isValue _ (g_ty s c) v) d_M_add_41 jb_M_isValue ml_M_93 st_M_isValue rfl (Nat.le_of_ble_eq_true rfl) (by decide) (by omega) (by omega) (rfl) rfl (fun r41 w41 p41 => ?_)
        obtain ⟨rfl, rfl⟩ := p41
        dsimp only [jst]
        refine j_if_ne (tgt := 49) (t := 47) C d_M_add_44 (by decide) rfl (fun h44 => ?_) (fun h44 => ?_)
        · have hrm : rmOK s c a = true := by simp only [rmOK, Bool.and_eq_true, decide_eq_true_eq]; exact ⟨Int32.not_lt.mp h16, Int32.not_lt.mp h31⟩
          obtain ⟨A, rfl, hA1, hA2⟩ := rm_ok hrc hrm
          rw [bI_0, Bool.not_eq_false] at h44
          have hn2 := nO_ne2 h44
          refine j_iconst (x := 0) (t := 50) C d_M_add_49 rfl rfl ?_
          refine j_istore (i := 5) (t := 52) (lv' := [(0, _), (1, _), (2, _), (4, _), (5, _)]) C d_M_add_50 (by decide) (by decide) rfl rfl ?_
          have loop : ∀ (qq k : Nat) (wi : jw) (mi : jM), A + 1 ≤ k + qq → k ≤ A → MH (xG X) wi o q mi → relM (addRows s c k (some (g_ty s c, v, []))) mi → J X (6, 2) (jQ X (fun r w' => r = some (.int (sp_add s (nI c) v (nI A)).1) ∧ RepM (xG X) w' o (sp_add s (nI c) v (nI A)).2) 0 0) wi 0 0 52 [(0, .ref o), (1, .int (nI c)), (2, .long v), (4, .int (nI A)), (5, .int (nI k))] [] := by
            intro qq
            induction qq with
            | zero => intro k wi mi h1 h2; omega
            | succ qq ih =>
              intro k wi mi hi1 hi2 hMi hRi
              refine j_iload (t := 54) C d_M_add_52 rfl rfl ?_
              refine j_iload (t := 56) C d_M_add_54 rfl rfl ?_
              refine j_icmp_ge (tgt := 111) (t := 59) C d_M_add_56 (by decide) rfl (fun h56 => ?_) (fun h56 => ?_)
              · have hke : k = A := fde h56 (by omega) (by omega) hi2
                subst hke
                refine j_iconst (x := 1) (t := 112) C d_M_add_111 rfl rfl ?_
                exact j_iret C d_M_add_112 (by first | rfl | exact nar_b) (by
                          rw [add_t hcx ⟨h44, hrm⟩, nI_clamp (by omega)]
                          exact ⟨rfl, RepM.of hMi hRi⟩) (by omega) (by omega)
              · have hk3 : k < A := fdh h56 (by omega) (by omega)
                obtain ⟨t, ht⟩ : ∃ t, t = addRows s c k (some (g_ty s c, v, [])) := ⟨_, rfl⟩
                rw [← ht] at hRi
                have hrt : g_rc t c = g_rc s c + k := by rw [ht, ar_rc]
                have hct : c < g_cc t := by rw [ht]; exact hc
                have hWt : WF t := by rw [ht]; exact WF_rows hW (by omega) (fun y z => by cases z; exact ⟨rfl, fun z => absurd z hn2, fun _ => rfl, Nat.zero_le _, fun j hj => absurd hj (Nat.not_lt_zero _)⟩) (by have := (wcol c hc).2.2.1; simp only [vlen, List.length_nil]; omega)
                have hcnt := (hRi.2.2.1 c hct).2.1
                have h16 : c < 16 := by omega
                have hty : g_ty t c = g_ty s c := by rw [ht]; rfl
                refine j_aload_n (i := 0) (t := 60) C d_M_add_59 rfl rfl (by first | exact jrv_r | exact jrv_n | exact jrv_f) rfl ?_
                refine j_get (t := 63) C fl_M_13 d_M_add_60 hMi.1 rfl rfl ?_
                refine j_sipush (x := nI 1000) (t := 66) C d_M_add_63 rfl rfl ?_
                refine j_iload_n (i := 1) (t := 67) C d_M_add_66 rfl rfl rfl ?_
                refine j_imul (t := 68) C d_M_add_67 rfl ?_
                refine j_aload_n (i := 0) (t := 69) C d_M_add_68 rfl rfl (by first | exact jrv_r | exact jrv_n | exact jrv_f) rfl ?_
                refine j_get (t := 72) C fl_M_30 d_M_add_69 hMi.1 rfl rfl ?_
                refine j_iload_n (i := 1) (t := 73) C d_M_add_72 rfl rfl rfl ?_
                refine j_ld_cnt (i := c) (t := 74) C d_M_add_73 hMi (by first | rfl | simp only [nI_add, nI_mul, nI_1]) (by omega) (hcnt) rfl ?_
                refine j_iadd (t := 75) C d_M_add_74 rfl ?_
                refine j_lload_n (i := 2) (t := 76) C d_M_add_75 rfl rfl rfl ?_
                refine j_st_num (i := 1000 * c + g_rc t c) (t := 77) C d_M_add_76 hMi (by rw [nI_mul, nI_add]) (by omega) rfl (fun w76 M76 => ?_)
                refine j_aload_n (i := 0) (t := 78) C d_M_add_77 rfl rfl (by first | exact jrv_r | exact jrv_n | exact jrv_f) rfl ?_
                refine j_get (t := 81) C fl_M_52 d_M_add_78 M76.1 rfl rfl ?_
                refine j_sipush (x := nI 1000) (t := 84) C d_M_add_81 rfl rfl ?_
                refine j_iload_n (i := 1) (t := 85) C d_M_add_84 rfl rfl rfl ?_
                refine j_imul (t := 86) C d_M_add_85 rfl ?_
                refine j_aload_n (i := 0) (t := 87) C d_M_add_86 rfl rfl (by first | exact jrv_r | exact jrv_n | exact jrv_f) rfl ?_
                refine j_get (t := 90) C fl_M_30 d_M_add_87 M76.1 rfl rfl ?_
                refine j_iload_n (i := 1) (t := 91) C d_M_add_90 rfl rfl rfl ?_
                refine j_ld_cnt (i := c) (t := 92) C d_M_add_91 M76 (by first | rfl | simp only [nI_add, nI_mul, nI_1]) (by omega) (hcnt) rfl ?_
                refine j_iadd (t := 93) C d_M_add_92 rfl ?_
                refine j_iconst (x := 1) (t := 94) C d_M_add_93 rfl rfl ?_
                refine j_st_has (i := 1000 * c + g_rc t c) (t := 95) C d_M_add_94 M76 (by rw [nI_mul, nI_add]) (by omega) rfl rfl (fun w94 M94 => ?_)
                refine j_aload_n (i := 0) (t := 96) C d_M_add_95 rfl rfl (by first | exact jrv_r | exact jrv_n | exact jrv_f) rfl ?_
                refine j_get (t := 99) C fl_M_30 d_M_add_96 M94.1 rfl rfl ?_
                refine j_iload_n (i := 1) (t := 100) C d_M_add_99 rfl rfl rfl ?_
                refine j_dup2 (t := 101) C d_M_add_100 rfl rfl rfl ?_
                refine j_ld_cnt (i := c) (t := 102) C d_M_add_101 M94 (by first | rfl | simp only [nI_add, nI_mul, nI_1]) (by omega) (hcnt) rfl ?_
                refine j_iconst (x := 1) (t := 103) C d_M_add_102 rfl rfl ?_
                refine j_iadd (t := 104) C d_M_add_103 rfl ?_
                rw [nI_1]
                refine j_st_cnt (i := c) (t := 105) C d_M_add_104 M94 (by rfl) (by omega) rfl (fun w104 M104 => ?_)
                refine j_iinc (y := _ + 1) (t := 108) (lv' := [(0, _), (1, _), (2, _), (4, _), (5, _)]) C d_M_add_105 rfl rfl (by decide) (by decide) rfl rfl ?_
                refine j_goto (tgt := 52) C d_M_add_108 (by decide) ?_
                rw [nI_1]
                have hz := relM_num1 (v := v) hRi hWt hct (by omega) (by rw [hty]; exact hn2)
                rw [hty] at hz
                rw [show addRows t c 1 (some (g_ty s c, v, [])) = addRows s c (k + 1) (some (g_ty s c, v, [])) by rw [ht]; exact addRows_s] at hz
                exact ih (k + 1) w104 _ (by omega) (by omega) M104 hz
          exact loop (A + 1) 0 _ n (by omega) (Nat.zero_le _) M2 (by rw [addRows_0]; exact hR)
        · refine j_iconst (x := 0) (t := 48) C d_M_add_47 rfl rfl ?_
          exact j_iret C d_M_add_48 (by first | rfl | exact nar_b) (by
                first
                | (rw [add_n (ci_none h10)]; exact ⟨rfl, RepM.of M2 hR⟩)
                | (rw [add_f hcx (fun z => Int32.not_lt.mpr (rm_1 z.2) h16)]; exact ⟨rfl, RepM.of M2 hR⟩)
                | (rw [add_f hcx (fun z => Int32.not_lt.mpr (rm_2 z.2) h31)]; exact ⟨rfl, RepM.of M2 hR⟩)
                | (rw [add_f hcx (fun z => absurd (z.1.symm.trans (bI_0.mp h44)) (by decide))]; exact ⟨rfl, RepM.of M2 hR⟩)) (by omega) (by omega)
