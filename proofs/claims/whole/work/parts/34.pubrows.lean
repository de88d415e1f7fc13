set_option maxHeartbeats 4000000 in
set_option maxRecDepth 100000 in
/-- miss -/
theorem c_T_miss (l : Launch) (o : Nat) (s : jS) (x n : Int32) : MC l y_T_miss b_T_miss 4 (some .boolean) 1 0 0
    (fun G w av => av = [.ref o, .int x, .int n] ∧ RepC G w o s ∧ WF s)
    (fun G w av r w' => r = some (.int (sp_miss s x n).1) ∧ RepC G w' o (sp_miss s x n).2) := by
  refine MC.of 99 (by decide) ?_
  intro X w av hl C hnm hp
  obtain ⟨rfl, hR, hW⟩ := hp
  obtain ⟨q, un, fc, ft, fl, fs, bs, fw, fr, fu, hRK⟩ := id hR
  obtain ⟨hG, ho, ⟨hac, hcc⟩, ⟨hat, hfit, htp⟩, ⟨hal, hlit⟩, ⟨has, hst⟩, haw, ⟨har, hzt⟩, ⟨hau, hun, hut⟩, hcol, hinj⟩ := id hRK
  obtain ⟨wtn, wtp, wcc, wln, wsn, wzn, wcol, wlit, wst, wzt⟩ := id hW
  refine ⟨[(0, _), (1, _), (2, _)], rfl, Nat.le_of_ble_eq_true rfl, rfl, ?_⟩
  refine j_aload_n (i := 0) (t := 1) C d_T_miss_0 rfl rfl (by first | exact jrv_r | exact jrv_n | exact jrv_f) rfl ?_
  refine j_iload_n (i := 1) (t := 2) C d_T_miss_1 rfl rfl rfl ?_
  refine j_callV (As := [_]) (t := 5) C (c_T_columnAt _ o (q 0 0) _ (g_cc s) fc x) d_T_miss_2 jb_T_columnAt ml_T_66 jv_T_columnAt (by assumption) rfl rfl rfl (Nat.le_of_ble_eq_true rfl) (by decide) (by omega) (by omega) (⟨rfl, ho, rfl, rfl, hac, wcc⟩) rfl (fun r2 w2 p2 => ?_)
  obtain ⟨rfl, rfl⟩ := p2
  dsimp only [jst]
  rw [vAt_cix wcc hcc]
  refine j_astore_n (i := 3) (t := 6) (lv' := [(0, _), (1, _), (2, _), (3, _)]) C d_T_miss_5 rfl (by first | exact jrv_r | exact jrv_n | exact jrv_f) (by decide) (by decide) rfl rfl ?_
  refine j_aload_n (i := 3) (t := 7) C d_T_miss_6 rfl rfl (by first | exact jrv_r | exact jrv_n | exact jrv_f) rfl ?_
  refine j_ifnull (tgt := 18) (t := 10) C d_T_miss_7 (by decide) rfl (fun h7 => ?_) (fun a7 h7 => ?_)
  · refine j_iconst (x := 0) (t := 19) C d_T_miss_18 rfl rfl ?_
    exact j_iret C d_T_miss_19 rfl (by first | (have hcn : cix s x = none := Option.map_eq_none_iff.mp h7; exact ⟨by simp [sp_miss, hcn], by simp only [sp_miss, hcn]; exact hR⟩) | (rw [bI_0] at h15; exact ⟨by simp [sp_miss, hcx, h15], by simp only [sp_miss, hcx, h15]; exact hR⟩)) (by omega) (by omega)
  · obtain ⟨c, hcx, rfl⟩ := Option.map_eq_some_iff.mp h7
    obtain ⟨hc, hxc⟩ := cix_some wcc hcx
    obtain ⟨fr1, kr1, km1, lA, hA, fe, ec1, fs1, k1, k2, k3, k4, k5, k6⟩ := hcol c hc
    obtain ⟨y1, y2, y3, y4, y5⟩ := wcol c hc
    refine j_lv (lv' := [(0, .ref o), (1, .int x), (2, .int n), (3, .ref (q 1 c))]) (by rw [hcx]; rfl) rfl ?_
    refine j_aload_n (i := 3) (t := 11) C d_T_miss_10 rfl rfl (by first | exact jrv_r | exact jrv_n | exact jrv_f) rfl ?_
    refine j_iload_n (i := 2) (t := 12) C d_T_miss_11 rfl rfl rfl ?_
    refine j_callV (As := [_]) (t := 15) C (c_C_hasRoomFor _ (q 1 c) _ (nI (g_rc s c)) n) d_T_miss_12 jb_C_hasRoomFor ml_T_77 jv_C_hasRoomFor (by assumption) rfl rfl rfl (Nat.le_of_ble_eq_true rfl) (by decide) (by omega) (by omega) (⟨rfl, by assumption, rfl⟩) rfl (fun r12 w12 p12 => ?_)
    obtain ⟨rfl, rfl⟩ := p12
    dsimp only [jst]
    rw [show (decide (1 ≤ n) && decide (n ≤ 1000 - nI (g_rc s c))) = rmOK s c n from rfl]
    refine j_if_ne (tgt := 20) (t := 18) C d_T_miss_15 (by decide) rfl (fun h15 => ?_) (fun h15 => ?_)
    · rw [bI_0, Bool.not_eq_false] at h15
      obtain ⟨N1, rfl, hN1, hN2⟩ := rm_ok y2 h15
      refine j_aload_n (i := 3) (t := 21) C d_T_miss_20 rfl rfl (by first | exact jrv_r | exact jrv_n | exact jrv_f) rfl ?_
      refine j_null (t := 22) C d_T_miss_21 rfl ?_
      refine j_iload_n (i := 2) (t := 23) C d_T_miss_22 rfl rfl rfl ?_
      refine j_lv (st' := [.int (nI N1), va_rf none, .ref (q 1 c)]) rfl rfl ?_
      refine j_callV (As := [_, _]) (t := 26) C (c_C_append _ (q 1 c) (q 2 c) _ _ _ _ _ _ _ _ _ (g_rc s c) (tsum (g_rf s c) (g_rc s c)) N1 0 fr1 none) d_T_miss_23 jb_C_append ml_T_87 jv_C_append (by assumption) rfl rfl rfl (Nat.le_of_ble_eq_true rfl) (by decide) (by omega) (by omega) (⟨rfl, k1, k2, hN2, (fun b hb => by cases hb), fun _ => rfl⟩) rfl (fun r23 w23 p23 => ?_)
      obtain ⟨rfl, g1, ⟨f2, g2, g3⟩, K2⟩ := p23
      dsimp only [jst]
      refine j_iconst (x := 1) (t := 27) C d_T_miss_26 rfl rfl ?_
      exact j_iret C d_T_miss_27 rfl (⟨by simp [sp_miss, hcx, h15], by simp only [sp_miss, hcx, h15, if_true, nI_clamp (show N1 < 2 ^ 31 by omega)]; exact ⟨q, un, fc, ft, fl, fs, bs, fw, fr, fu, RK_rows hRK hc k1 k2 k3 k4 k5 k6 (r1 := none) (v := none) rfl (by simp [vlen]) g1 g2 g3 K2⟩⟩) (by omega) (by omega)
    · refine j_iconst (x := 0) (t := 19) C d_T_miss_18 rfl rfl ?_
      exact j_iret C d_T_miss_19 rfl (by first | (have hcn : cix s x = none := Option.map_eq_none_iff.mp h7; exact ⟨by simp [sp_miss, hcn], by simp only [sp_miss, hcn]; exact hR⟩) | (rw [bI_0] at h15; exact ⟨by simp [sp_miss, hcx, h15], by simp only [sp_miss, hcx, h15]; exact hR⟩)) (by omega) (by omega)

set_option maxHeartbeats 4000000 in
set_option maxRecDepth 100000 in
/-- add -/
theorem c_T_add (l : Launch) (o : Nat) (s : jS) (x : Int32) (v : Int64) (n : Int32) : MC l y_T_add b_T_add 6 (some .boolean) 2 1 3
    (fun G w av => av = [.ref o, .int x, .long v, .int n] ∧ RepC G w o s ∧ WF s)
    (fun G w av r w' => r = some (.int (sp_add s x v n).1) ∧ RepC G w' o (sp_add s x v n).2) := by
  refine MC.of 2 (by decide) ?_
  intro X w av hl C hnm hp
  obtain ⟨rfl, hR, hW⟩ := hp
  obtain ⟨q, un, fc, ft, fl, fs, bs, fw, fr, fu, hRK⟩ := id hR
  obtain ⟨hG, ho, ⟨hac, hcc⟩, ⟨hat, hfit, htp⟩, ⟨hal, hlit⟩, ⟨has, hst⟩, haw, ⟨har, hzt⟩, ⟨hau, hun, hut⟩, hcol, hinj⟩ := id hRK
  obtain ⟨wtn, wtp, wcc, wln, wsn, wzn, wcol, wlit, wst, wzt⟩ := id hW
  refine ⟨[(0, _), (1, _), (2, _), (4, _)], rfl, Nat.le_of_ble_eq_true rfl, rfl, ?_⟩
  refine j_aload_n (i := 0) (t := 1) C d_T_add_0 rfl rfl (by first | exact jrv_r | exact jrv_n | exact jrv_f) rfl ?_
  refine j_iload_n (i := 1) (t := 2) C d_T_add_1 rfl rfl rfl ?_
  refine j_callV (As := [_]) (t := 5) C (c_T_columnAt _ o (q 0 0) _ (g_cc s) fc x) d_T_add_2 jb_T_columnAt ml_T_66 jv_T_columnAt (by assumption) rfl rfl rfl (Nat.le_of_ble_eq_true rfl) (by decide) (by omega) (by omega) (⟨rfl, ho, rfl, rfl, hac, wcc⟩) rfl (fun r2 w2 p2 => ?_)
  obtain ⟨rfl, rfl⟩ := p2
  dsimp only [jst]
  rw [vAt_cix wcc hcc]
  refine j_astore (i := 5) (t := 7) (lv' := [(0, _), (1, _), (2, _), (4, _), (5, _)]) C d_T_add_5 (by first | exact jrv_r | exact jrv_n | exact jrv_f) (by decide) (by decide) rfl rfl ?_
  refine j_aload (t := 9) C d_T_add_7 rfl (by first | exact jrv_r | exact jrv_n | exact jrv_f) rfl ?_
  refine j_ifnull (tgt := 34) (t := 12) C d_T_add_9 (by decide) rfl (fun h9 => ?_) (fun a9 h9 => ?_)
  · refine j_iconst (x := 0) (t := 35) C d_T_add_34 rfl rfl ?_
    exact j_iret C d_T_add_35 rfl (by first | (have hcn : cix s x = none := Option.map_eq_none_iff.mp h9; exact ⟨by simp [sp_add, hcn], by simp only [sp_add, hcn]; exact hR⟩) | (rw [bI_0] at h21; exact ⟨by simp [sp_add, hcx, h21], by simp only [sp_add, hcx, h21]; exact hR⟩) | (rw [bI_0] at h31; exact ⟨by simp [sp_add, hcx, h31], by simp only [sp_add, hcx, h31]; simp only [Bool.false_eq_true, and_false, if_false]; exact hR⟩)) (by omega) (by omega)
  · obtain ⟨c, hcx, rfl⟩ := Option.map_eq_some_iff.mp h9
    obtain ⟨hc, hxc⟩ := cix_some wcc hcx
    obtain ⟨fr1, kr1, km1, lA, hA, fe, ec1, fs1, k1, k2, k3, k4, k5, k6⟩ := hcol c hc
    obtain ⟨y1, y2, y3, y4, y5⟩ := wcol c hc
    refine j_lv (lv' := [(0, .ref o), (1, .int x), (2, .long v), (4, .int n), (5, .ref (q 1 c))]) (by rw [hcx]; rfl) rfl ?_
    refine j_aload (t := 14) C d_T_add_12 rfl (by first | exact jrv_r | exact jrv_n | exact jrv_f) rfl ?_
    refine j_get (t := 17) C fl_T_70 d_T_add_14 (by assumption) (by first | rfl | assumption) rfl ?_
    refine j_lload_n (i := 2) (t := 18) C d_T_add_17 rfl rfl rfl ?_
    refine j_callS (As := [_, _]) (t := 21) C (c_T_isNumberOf _ (g_ty s c) v) d_T_add_18 jb_T_isNumberOf ml_T_73 st_T_isNumberOf rfl (Nat.le_of_ble_eq_true rfl) (by decide) (by omega) (by omega) (rfl) rfl (fun r18 w18 p18 => ?_)
    obtain ⟨rfl, rfl⟩ := p18
    dsimp only [jst]
    refine j_if_eq (tgt := 34) (t := 24) C d_T_add_21 (by decide) rfl (fun h21 => ?_) (fun h21 => ?_)
    · refine j_iconst (x := 0) (t := 35) C d_T_add_34 rfl rfl ?_
      exact j_iret C d_T_add_35 rfl (by first | (have hcn : cix s x = none := Option.map_eq_none_iff.mp h9; exact ⟨by simp [sp_add, hcn], by simp only [sp_add, hcn]; exact hR⟩) | (rw [bI_0] at h21; exact ⟨by simp [sp_add, hcx, h21], by simp only [sp_add, hcx, h21]; exact hR⟩) | (rw [bI_0] at h31; exact ⟨by simp [sp_add, hcx, h31], by simp only [sp_add, hcx, h31]; simp only [Bool.false_eq_true, and_false, if_false]; exact hR⟩)) (by omega) (by omega)
    · refine j_aload (t := 26) C d_T_add_24 rfl (by first | exact jrv_r | exact jrv_n | exact jrv_f) rfl ?_
      refine j_iload (t := 28) C d_T_add_26 rfl rfl ?_
      refine j_callV (As := [_]) (t := 31) C (c_C_hasRoomFor _ (q 1 c) _ (nI (g_rc s c)) n) d_T_add_28 jb_C_hasRoomFor ml_T_77 jv_C_hasRoomFor (by assumption) rfl rfl rfl (Nat.le_of_ble_eq_true rfl) (by decide) (by omega) (by omega) (⟨rfl, by assumption, rfl⟩) rfl (fun r28 w28 p28 => ?_)
      obtain ⟨rfl, rfl⟩ := p28
      dsimp only [jst]
      rw [show (decide (1 ≤ n) && decide (n ≤ 1000 - nI (g_rc s c))) = rmOK s c n from rfl]
      refine j_if_ne (tgt := 36) (t := 34) C d_T_add_31 (by decide) rfl (fun h31 => ?_) (fun h31 => ?_)
      · rw [bI_0, Bool.not_eq_false] at h31 h21
        obtain ⟨N1, rfl, hN1, hN2⟩ := rm_ok y2 h31
        refine j_aload (t := 38) C d_T_add_36 rfl (by first | exact jrv_r | exact jrv_n | exact jrv_f) rfl ?_
        refine j_newW (t := 41) C nw_T_26 d_T_add_38 (by omega) (by first | omega | (simp only [List.length_cons, List.length_nil]; omega)) rfl (fun a38 w38 n38 e38 h38 f38 => ?_)
        refine j_wide (k' := 1) (n' := 3) (Nat.le_of_ble_eq_true rfl) (Nat.le_of_ble_eq_true rfl) ?_
        have k1a := f38 _ _ k1
        refine j_dup (t := 42) C d_T_add_41 rfl rfl ?_
        refine j_aload (t := 44) C d_T_add_42 rfl (by first | exact jrv_r | exact jrv_n | exact jrv_f) rfl ?_
        refine j_get (t := 47) C fl_T_70 d_T_add_44 (by assumption) (by first | rfl | assumption) rfl ?_
        refine j_lload_n (i := 2) (t := 48) C d_T_add_47 rfl rfl rfl ?_
        refine j_getz (t := 51) C d_T_add_48 fz_T_81 rfl ?_
        refine j_callI (As := [_, _, _]) (t := 54) C (c_V_init _ a38 (xG X).2.2 (g_ty s c) v) d_T_add_51 jb_V_init ml_T_84 im_V_init rfl rfl (Nat.le_of_ble_eq_true rfl) (by decide) (by omega) (by omega) (⟨rfl, h38⟩) rfl (fun r51 w51 p51 => ?_)
        obtain ⟨rfl, e51⟩ := p51
        dsimp only [jst]
        have g51 : jh w51 a38 (eO cV [.int (g_ty s c), .long v, .ref (xG X).2.2]) := by rw [e51]; exact jh_us h38
        have K51 : KA _ w51 [] := fun b e _ hb => by rw [e51]; exact jh_un (f38 b e hb) (fun z => n38 (by rw [← z]; exact hb.1))
        have hV : isV (xG X) w51 a38 (g_ty s c, v, []) := ⟨_, g51, by simp, Or.inl ⟨rfl, rfl⟩⟩
        have hRK2 := RK_mono hRK K51
        have kk : ∀ {a e}, jh _ a e → jh w51 a e := fun hb => K51 _ _ (by simp) hb
        have k1b := kk k1
        refine j_iload (t := 56) C d_T_add_54 rfl rfl ?_
        refine j_lv (st' := [.int (nI N1), va_rf (some a38), .ref (q 1 c)]) rfl rfl ?_
        refine j_callV (As := [_, _]) (t := 59) C (c_C_append _ (q 1 c) (q 2 c) _ _ _ _ _ _ _ _ _ (g_rc s c) (tsum (g_rf s c) (g_rc s c)) N1 0 fr1 (some a38)) d_T_add_56 jb_C_append ml_T_87 jv_C_append (by assumption) rfl rfl rfl (Nat.le_of_ble_eq_true rfl) (by decide) (by omega) (by omega) (⟨rfl, k1b, kk k2, hN2, (fun b hb => by cases hb; exact ⟨_, hV, rfl⟩), (fun hb => by cases hb)⟩) rfl (fun r56 w56 p56 => ?_)
        obtain ⟨rfl, g1, ⟨f2, g2, g3⟩, K2⟩ := p56
        dsimp only [jst]
        refine j_iconst (x := 1) (t := 60) C d_T_add_59 rfl rfl ?_
        exact j_iret C d_T_add_60 rfl (⟨by simp [sp_add, hcx, h21, h31], by
      simp only [sp_add, hcx, h21, h31, and_self, if_true, nI_clamp (show N1 < 2 ^ 31 by omega)]
      refine ⟨q, un, fc, ft, fl, fs, bs, fw, fr, fu, RK_rows hRK2 hc k1b (kk k2) (fun j hj => isO_keep K51 MU.nil (k3 j hj)) (kk k4) (kk k5) (fun hk => ?_) (v := some (g_ty s c, v, [])) (r1 := some a38) ⟨_, rfl, hV⟩ (by simp [vlen]) g1 g2 g3 K2⟩
      obtain ⟨b1, b2, b3, b4, b5, b6⟩ := k6 hk
      refine ⟨b1, b2, b3, fun j hj => ?_, isO_keep K51 MU.nil b5, isO_keep K51 MU.nil b6⟩
      obtain ⟨b, c1, c2⟩ := b4 j hj
      exact ⟨b, c1, isV_keep K51 MU.nil c2⟩⟩) (by omega) (by omega)
      · refine j_iconst (x := 0) (t := 35) C d_T_add_34 rfl rfl ?_
        exact j_iret C d_T_add_35 rfl (by first | (have hcn : cix s x = none := Option.map_eq_none_iff.mp h9; exact ⟨by simp [sp_add, hcn], by simp only [sp_add, hcn]; exact hR⟩) | (rw [bI_0] at h21; exact ⟨by simp [sp_add, hcx, h21], by simp only [sp_add, hcx, h21]; exact hR⟩) | (rw [bI_0] at h31; exact ⟨by simp [sp_add, hcx, h31], by simp only [sp_add, hcx, h31]; simp only [Bool.false_eq_true, and_false, if_false]; exact hR⟩)) (by omega) (by omega)

theorem onT_ok {s : jS} {n : Int32} (ht : g_tn s ≤ 1000) (h : onT s n = true) : ∃ N, n = nI N ∧ N ≤ g_tn s := by
  unfold onT at h
  simp only [Bool.and_eq_true, decide_eq_true_eq] at h
  obtain ⟨N, hN, rfl⟩ := nI_of (x := n) (by simpa using h.1)
  exact ⟨N, rfl, (nI_leI hN (by omega)).mp h.2⟩
theorem tx_gt {N : Nat} (h : (255 : Int32) < nI N) : ¬ nI N ≤ 255 := by rw [Int32.not_le]; exact h
theorem tx_le {N : Nat} (hN : N < 2 ^ 31) (h : ¬ (255 : Int32) < nI N) : N ≤ 255 := by
  rcases Nat.lt_or_ge 255 N with z | z
  · exact absurd (nI_lt (a := 255) z hN) h
  · exact z
theorem txf1 {s : jS} {c : Nat} {n : Int32} (h : ¬ g_ty s c = 2) : txOK s c n = false := by simp [txOK, h]
theorem txf2 {s : jS} {c N : Nat} (h : (255 : Int32) < nI N) : txOK s c (nI N) = false := by
  have h1 := tx_gt h
  unfold txOK
  rw [decide_eq_false h1]
  simp
theorem txf3 {s : jS} {c : Nat} {n : Int32} (h : bI (rmOK s c 1) = 0) : txOK s c n = false := by
  rw [bI_0] at h
  simp [txOK, h]
theorem txf4 {s : jS} {c : Nat} {n : Int32} (h : bI (decide (n ≤ 8000 - nI (tsum (g_rf s c) (g_rc s c)))) = 0) : txOK s c n = false := by
  rw [bI_0] at h
  unfold txOK
  rw [h]
  simp
theorem tptx_len {s : jS} {n : Nat} : (tptx s n).length = n := by simp [tptx]
theorem tptx_at {s : jS} {n j : Nat} (h : j < n) : (tptx s n).getD j 0 = g_tp s j := by simp [tptx, h]
set_option maxHeartbeats 4000000 in
set_option maxRecDepth 100000 in
/-- addText -/
theorem c_T_addText (l : Launch) (o : Nat) (s : jS) (x n : Int32) : MC l y_T_addText b_T_addText 4 (some .boolean) 3 2 258
    (fun G w av => av = [.ref o, .int x, .int n] ∧ RepC G w o s ∧ WF s)
    (fun G w av r w' => r = some (.int (sp_addText s x n).1) ∧ RepC G w' o (sp_addText s x n).2) := by
  refine MC.of 99 (by decide) ?_
  intro X w av hl C hnm hp
  obtain ⟨rfl, hR, hW⟩ := hp
  obtain ⟨q, un, fc, ft, fl, fs, bs, fw, fr, fu, hRK⟩ := id hR
  obtain ⟨hG, ho, ⟨hac, hcc⟩, ⟨hat, hfit, htp⟩, ⟨hal, hlit⟩, ⟨has, hst⟩, haw, ⟨har, hzt⟩, ⟨hau, hun, hut⟩, hcol, hinj⟩ := id hRK
  obtain ⟨wtn, wtp, wcc, wln, wsn, wzn, wcol, wlit, wst, wzt⟩ := id hW
  refine ⟨[(0, _), (1, _), (2, _)], rfl, Nat.le_of_ble_eq_true rfl, rfl, ?_⟩
  refine j_aload_n (i := 0) (t := 1) C d_T_addText_0 rfl rfl (by first | exact jrv_r | exact jrv_n | exact jrv_f) rfl ?_
  refine j_iload_n (i := 2) (t := 2) C d_T_addText_1 rfl rfl rfl ?_
  refine j_callV (As := [_]) (t := 5) C (c_T_isOnTape _ o _ (nI (g_tn s)) n) d_T_addText_2 jb_T_isOnTape ml_T_91 jv_T_isOnTape (by assumption) rfl rfl rfl (Nat.le_of_ble_eq_true rfl) (by decide) (by omega) (by omega) (⟨rfl, ho, rfl⟩) rfl (fun r2 w2 p2 => ?_)
  obtain ⟨rfl, rfl⟩ := p2
  dsimp only [jst]
  rw [show (decide (0 ≤ n) && decide (n ≤ nI (g_tn s))) = onT s n from rfl]
  refine j_if_ne (tgt := 10) (t := 8) C d_T_addText_5 (by decide) rfl (fun h5 => ?_) (fun h5 => ?_)
  · rw [bI_0, Bool.not_eq_false] at h5
    obtain ⟨N1, rfl, hN1⟩ := onT_ok wtn h5
    refine j_aload_n (i := 0) (t := 11) C d_T_addText_10 rfl rfl (by first | exact jrv_r | exact jrv_n | exact jrv_f) rfl ?_
    refine j_iconst (x := 0) (t := 12) C d_T_addText_11 rfl rfl ?_
    refine j_putW (t := 15) C fp_T_23 d_T_addText_12 (by assumption) (by first | rfl | exact jnar_rf) (by first | rfl | exact jfit_rf) (by first | exact Nat.le_of_ble_eq_true rfl | (simp only [List.length_set]; omega)) rfl (fun w12 e12 h12 f12 => ?_)
    have hRK2 : RK (xG X) w12 o (s_tn s 0) q un fc ft fl fs bs fw fr fu := RK_o hRK (KA.rf.put f12 (by simp)) h12 rfl rfl (fun j hj => ⟨hj, rfl⟩) (fun j hj => ⟨hj, rfl⟩) (fun j hj => absurd hj (Nat.not_lt_zero _)) hzt hun hut (fun c _ => ⟨rfl, rfl, rfl, rfl, rfl, rfl, rfl, rfl, rfl⟩)
    obtain ⟨-, ho2, ⟨hac2, hcc2⟩, ⟨hat2, hfit2, -⟩, -, -, -, -, -, hcol2, -⟩ := id hRK2
    refine j_aload_n (i := 0) (t := 16) C d_T_addText_15 rfl rfl (by first | exact jrv_r | exact jrv_n | exact jrv_f) rfl ?_
    refine j_iload_n (i := 1) (t := 17) C d_T_addText_16 rfl rfl rfl ?_
    refine j_callV (As := [_]) (t := 20) C (c_T_columnAt _ o (q 0 0) _ (g_cc s) fc x) d_T_addText_17 jb_T_columnAt ml_T_66 jv_T_columnAt (by assumption) rfl rfl rfl (Nat.le_of_ble_eq_true rfl) (by decide) (by omega) (by omega) (⟨rfl, ho2, rfl, rfl, hac2, wcc⟩) rfl (fun r17 w17 p17 => ?_)
    obtain ⟨rfl, rfl⟩ := p17
    dsimp only [jst]
    rw [vAt_cix wcc hcc]
    refine j_astore_n (i := 3) (t := 21) (lv' := [(0, _), (1, _), (2, _), (3, _)]) C d_T_addText_20 rfl (by first | exact jrv_r | exact jrv_n | exact jrv_f) (by decide) (by decide) rfl rfl ?_
    refine j_aload_n (i := 3) (t := 22) C d_T_addText_21 rfl rfl (by first | exact jrv_r | exact jrv_n | exact jrv_f) rfl ?_
    refine j_ifnull (tgt := 56) (t := 25) C d_T_addText_22 (by decide) rfl (fun h22 => ?_) (fun a22 h22 => ?_)
    · refine j_iconst (x := 0) (t := 57) C d_T_addText_56 rfl rfl ?_
      exact j_iret C d_T_addText_57 rfl (by first | (have hcn : cix s x = none := Option.map_eq_none_iff.mp h22; exact ⟨by simp [sp_addText, h5, hcn], by simp only [sp_addText, h5, hcn]; exact ⟨q, un, fc, ft, fl, fs, bs, fw, fr, fu, hRK2⟩⟩) | (have htx : txOK s c (nI N1) = false := txf1 h30; exact ⟨by simp [sp_addText, h5, hcx, htx], by simp only [sp_addText, h5, hcx, htx]; exact ⟨q, un, fc, ft, fl, fs, bs, fw, fr, fu, hRK2⟩⟩) | (have htx : txOK s c (nI N1) = false := txf2 h37; exact ⟨by simp [sp_addText, h5, hcx, htx], by simp only [sp_addText, h5, hcx, htx]; exact ⟨q, un, fc, ft, fl, fs, bs, fw, fr, fu, hRK2⟩⟩) | (have htx : txOK s c (nI N1) = false := txf3 h45; exact ⟨by simp [sp_addText, h5, hcx, htx], by simp only [sp_addText, h5, hcx, htx]; exact ⟨q, un, fc, ft, fl, fs, bs, fw, fr, fu, hRK2⟩⟩) | (have htx : txOK s c (nI N1) = false := txf4 h53; exact ⟨by simp [sp_addText, h5, hcx, htx], by simp only [sp_addText, h5, hcx, htx]; exact ⟨q, un, fc, ft, fl, fs, bs, fw, fr, fu, hRK2⟩⟩)) (by omega) (by omega)
    · obtain ⟨c, hcx, rfl⟩ := Option.map_eq_some_iff.mp h22
      obtain ⟨hc, hxc⟩ := cix_some wcc hcx
      obtain ⟨fr1, kr1, km1, lA, hA, fe, ec1, fs1, k1, k2, k3, k4, k5, k6⟩ := hcol2 c hc
      change jh _ (q 1 c) (eO cC (kFs (g_ty s c) (q 2 c) (nI (g_rc s c)) (nI (tsum (g_rf s c) (g_rc s c))) (bI (g_kn s c)) kr1 km1 lA hA (q 3 c) ec1 (q 4 c))) at k1
      obtain ⟨y1, y2, y3, y4, y5⟩ := wcol c hc
      refine j_lv (lv' := [(0, .ref o), (1, .int x), (2, .int (nI N1)), (3, .ref (q 1 c))]) (by rw [hcx]; rfl) rfl ?_
      refine j_aload_n (i := 3) (t := 26) C d_T_addText_25 rfl rfl (by first | exact jrv_r | exact jrv_n | exact jrv_f) rfl ?_
      refine j_get (t := 29) C fl_T_70 d_T_addText_26 (by assumption) (by first | rfl | assumption) rfl ?_
      refine j_iconst (x := 2) (t := 30) C d_T_addText_29 rfl rfl ?_
      refine j_icmp_ne (tgt := 56) (t := 33) C d_T_addText_30 (by decide) rfl (fun h30 => ?_) (fun h30 => ?_)
      · refine j_iconst (x := 0) (t := 57) C d_T_addText_56 rfl rfl ?_
        exact j_iret C d_T_addText_57 rfl (by first | (have hcn : cix s x = none := Option.map_eq_none_iff.mp h22; exact ⟨by simp [sp_addText, h5, hcn], by simp only [sp_addText, h5, hcn]; exact ⟨q, un, fc, ft, fl, fs, bs, fw, fr, fu, hRK2⟩⟩) | (have htx : txOK s c (nI N1) = false := txf1 h30; exact ⟨by simp [sp_addText, h5, hcx, htx], by simp only [sp_addText, h5, hcx, htx]; exact ⟨q, un, fc, ft, fl, fs, bs, fw, fr, fu, hRK2⟩⟩) | (have htx : txOK s c (nI N1) = false := txf2 h37; exact ⟨by simp [sp_addText, h5, hcx, htx], by simp only [sp_addText, h5, hcx, htx]; exact ⟨q, un, fc, ft, fl, fs, bs, fw, fr, fu, hRK2⟩⟩) | (have htx : txOK s c (nI N1) = false := txf3 h45; exact ⟨by simp [sp_addText, h5, hcx, htx], by simp only [sp_addText, h5, hcx, htx]; exact ⟨q, un, fc, ft, fl, fs, bs, fw, fr, fu, hRK2⟩⟩) | (have htx : txOK s c (nI N1) = false := txf4 h53; exact ⟨by simp [sp_addText, h5, hcx, htx], by simp only [sp_addText, h5, hcx, htx]; exact ⟨q, un, fc, ft, fl, fs, bs, fw, fr, fu, hRK2⟩⟩)) (by omega) (by omega)
      · refine j_iload_n (i := 2) (t := 34) C d_T_addText_33 rfl rfl rfl ?_
        refine j_sipush (x := 255) (t := 37) C d_T_addText_34 rfl rfl ?_
        refine j_icmp_gt (tgt := 56) (t := 40) C d_T_addText_37 (by decide) rfl (fun h37 => ?_) (fun h37 => ?_)
        · refine j_iconst (x := 0) (t := 57) C d_T_addText_56 rfl rfl ?_
          exact j_iret C d_T_addText_57 rfl (by first | (have hcn : cix s x = none := Option.map_eq_none_iff.mp h22; exact ⟨by simp [sp_addText, h5, hcn], by simp only [sp_addText, h5, hcn]; exact ⟨q, un, fc, ft, fl, fs, bs, fw, fr, fu, hRK2⟩⟩) | (have htx : txOK s c (nI N1) = false := txf1 h30; exact ⟨by simp [sp_addText, h5, hcx, htx], by simp only [sp_addText, h5, hcx, htx]; exact ⟨q, un, fc, ft, fl, fs, bs, fw, fr, fu, hRK2⟩⟩) | (have htx : txOK s c (nI N1) = false := txf2 h37; exact ⟨by simp [sp_addText, h5, hcx, htx], by simp only [sp_addText, h5, hcx, htx]; exact ⟨q, un, fc, ft, fl, fs, bs, fw, fr, fu, hRK2⟩⟩) | (have htx : txOK s c (nI N1) = false := txf3 h45; exact ⟨by simp [sp_addText, h5, hcx, htx], by simp only [sp_addText, h5, hcx, htx]; exact ⟨q, un, fc, ft, fl, fs, bs, fw, fr, fu, hRK2⟩⟩) | (have htx : txOK s c (nI N1) = false := txf4 h53; exact ⟨by simp [sp_addText, h5, hcx, htx], by simp only [sp_addText, h5, hcx, htx]; exact ⟨q, un, fc, ft, fl, fs, bs, fw, fr, fu, hRK2⟩⟩)) (by omega) (by omega)
        · refine j_aload_n (i := 3) (t := 41) C d_T_addText_40 rfl rfl (by first | exact jrv_r | exact jrv_n | exact jrv_f) rfl ?_
          refine j_iconst (x := 1) (t := 42) C d_T_addText_41 rfl rfl ?_
          refine j_callV (As := [_]) (t := 45) C (c_C_hasRoomFor _ (q 1 c) _ (nI (g_rc s c)) (1 : Int32)) d_T_addText_42 jb_C_hasRoomFor ml_T_77 jv_C_hasRoomFor (by assumption) rfl rfl rfl (Nat.le_of_ble_eq_true rfl) (by decide) (by omega) (by omega) (⟨rfl, by assumption, rfl⟩) rfl (fun r42 w42 p42 => ?_)
          obtain ⟨rfl, rfl⟩ := p42
          dsimp only [jst]
          rw [show (decide (1 ≤ (1 : Int32)) && decide ((1 : Int32) ≤ 1000 - nI (g_rc s c))) = rmOK s c (1 : Int32) from rfl]
          refine j_if_eq (tgt := 56) (t := 48) C d_T_addText_45 (by decide) rfl (fun h45 => ?_) (fun h45 => ?_)
          · refine j_iconst (x := 0) (t := 57) C d_T_addText_56 rfl rfl ?_
            exact j_iret C d_T_addText_57 rfl (by first | (have hcn : cix s x = none := Option.map_eq_none_iff.mp h22; exact ⟨by simp [sp_addText, h5, hcn], by simp only [sp_addText, h5, hcn]; exact ⟨q, un, fc, ft, fl, fs, bs, fw, fr, fu, hRK2⟩⟩) | (have htx : txOK s c (nI N1) = false := txf1 h30; exact ⟨by simp [sp_addText, h5, hcx, htx], by simp only [sp_addText, h5, hcx, htx]; exact ⟨q, un, fc, ft, fl, fs, bs, fw, fr, fu, hRK2⟩⟩) | (have htx : txOK s c (nI N1) = false := txf2 h37; exact ⟨by simp [sp_addText, h5, hcx, htx], by simp only [sp_addText, h5, hcx, htx]; exact ⟨q, un, fc, ft, fl, fs, bs, fw, fr, fu, hRK2⟩⟩) | (have htx : txOK s c (nI N1) = false := txf3 h45; exact ⟨by simp [sp_addText, h5, hcx, htx], by simp only [sp_addText, h5, hcx, htx]; exact ⟨q, un, fc, ft, fl, fs, bs, fw, fr, fu, hRK2⟩⟩) | (have htx : txOK s c (nI N1) = false := txf4 h53; exact ⟨by simp [sp_addText, h5, hcx, htx], by simp only [sp_addText, h5, hcx, htx]; exact ⟨q, un, fc, ft, fl, fs, bs, fw, fr, fu, hRK2⟩⟩)) (by omega) (by omega)
          · refine j_aload_n (i := 3) (t := 49) C d_T_addText_48 rfl rfl (by first | exact jrv_r | exact jrv_n | exact jrv_f) rfl ?_
            refine j_iload_n (i := 2) (t := 50) C d_T_addText_49 rfl rfl rfl ?_
            refine j_callV (As := [_]) (t := 53) C (c_C_hasRoomForBytes _ (q 1 c) _ (nI (tsum (g_rf s c) (g_rc s c))) (nI N1)) d_T_addText_50 jb_C_hasRoomForBytes ml_T_94 jv_C_hasRoomForBytes (by assumption) rfl rfl rfl (Nat.le_of_ble_eq_true rfl) (by decide) (by omega) (by omega) (⟨rfl, by assumption, rfl⟩) rfl (fun r50 w50 p50 => ?_)
            obtain ⟨rfl, rfl⟩ := p50
            dsimp only [jst]
            refine j_if_ne (tgt := 58) (t := 56) C d_T_addText_53 (by decide) rfl (fun h53 => ?_) (fun h53 => ?_)
            · rw [bI_0, Bool.not_eq_false] at h45 h53
              have hN255 : N1 ≤ 255 := tx_le (by omega) h37
              have htx : txOK s c (nI N1) = true := by
                unfold txOK
                rw [h45, h53]
                simp only [Bool.and_true, Bool.and_eq_true, decide_eq_true_eq]
                exact ⟨by simpa using h30, nI_le (b := 255) hN255 (by omega)⟩
              have hr1 : g_rc s c + 1 ≤ 1000 := by
                obtain ⟨N2, e2, e3, e4⟩ := rm_ok y2 h45
                omega
              refine j_aload_n (i := 3) (t := 59) C d_T_addText_58 rfl rfl (by first | exact jrv_r | exact jrv_n | exact jrv_f) rfl ?_
              refine j_newW (t := 62) C nw_T_26 d_T_addText_59 (by omega) (by first | omega | (simp only [List.length_cons, List.length_nil]; omega)) rfl (fun a59 w59 n59 e59 h59 f59 => ?_)
              refine j_wide (k' := 1) (n' := 3) (Nat.le_of_ble_eq_true rfl) (Nat.le_of_ble_eq_true rfl) ?_
              have hat59 := f59 _ _ hat2
              have ho59 := f59 _ _ ho2
              refine j_dup (t := 63) C d_T_addText_62 rfl rfl ?_
              refine j_iconst (x := 2) (t := 64) C d_T_addText_63 rfl rfl ?_
              refine j_lconst (x := 0) (t := 65) C d_T_addText_64 rfl rfl ?_
              refine j_aload_n (i := 0) (t := 66) C d_T_addText_65 rfl rfl (by first | exact jrv_r | exact jrv_n | exact jrv_f) rfl ?_
              refine j_get (t := 69) C fl_T_19 d_T_addText_66 (by assumption) (by first | rfl | assumption) rfl ?_
              refine j_iload_n (i := 2) (t := 70) C d_T_addText_69 rfl rfl rfl ?_
              refine j_callS (As := [_, _]) (t := 73) C (c_A_copyOf _ (q 0 1) ft N1) d_T_addText_70 jb_A_copyOf ml_T_97 st_A_copyOf rfl (Nat.le_of_ble_eq_true rfl) (by decide) (by omega) (by omega) (⟨rfl, hat59, hN255, hfit2⟩) rfl (fun r70 w70 p70 => ?_)
              obtain ⟨tA, rfl, nA, ⟨gA, hgA, egA⟩, KA70⟩ := p70
              dsimp only [jst]
              have h59a := KA70 _ _ (by simp) h59
              refine j_callI (As := [_, _, _]) (t := 76) C (c_V_init _ a59 tA 2 0) d_T_addText_73 jb_V_init ml_T_84 im_V_init rfl rfl (Nat.le_of_ble_eq_true rfl) (by decide) (by omega) (by omega) (⟨rfl, h59a⟩) rfl (fun r73 w73 p73 => ?_)
              obtain ⟨rfl, e73⟩ := p73
              dsimp only [jst]
              have g73 : jh w73 a59 (eO cV [.int 2, .long 0, .ref tA]) := by rw [e73]; exact jh_us h59a
              have hneA : tA ≠ a59 := fun z => nA (by rw [z]; exact h59.1)
              have t73 : jh w73 tA (eB (xG X) N1 gA) := by rw [e73]; exact jh_un hgA hneA
              have K73 : KA _ w73 [] := fun b e _ hb => by rw [e73]; exact jh_un (KA70 _ _ (by simp) (f59 b e hb)) (fun z => n59 (by rw [← z]; exact hb.1))
              have hV : isV (xG X) w73 a59 (2, 0, tptx s N1) := ⟨_, g73, by simp [tptx]; exact hN255, Or.inr ⟨gA, by rw [tptx_len]; exact t73, fun j hj => by rw [tptx_len] at hj; rw [tptx_at hj, egA j hj]; exact (htp j (by omega)).symm⟩⟩
              have hRK3 := RK_mono hRK2 K73
              have kk : ∀ {a e}, jh _ a e → jh w73 a e := fun hb => K73 _ _ (by simp) hb
              have k1b := kk k1
              refine j_iconst (x := 1) (t := 77) C d_T_addText_76 rfl rfl ?_
              refine j_lv (st' := [.int (nI 1), va_rf (some a59), .ref (q 1 c)]) rfl rfl ?_
              refine j_callV (As := [_, _]) (t := 80) C (c_C_append _ (q 1 c) (q 2 c) _ _ _ _ _ _ _ _ _ (g_rc s c) (tsum (g_rf s c) (g_rc s c)) 1 N1 fr1 (some a59)) d_T_addText_77 jb_C_append ml_T_87 jv_C_append (by assumption) rfl rfl rfl (Nat.le_of_ble_eq_true rfl) (by decide) (by omega) (by omega) (⟨rfl, k1b, kk k2, hr1, (fun b hb => by cases hb; exact ⟨_, hV, tptx_len⟩), (fun hb => by cases hb)⟩) rfl (fun r77 w77 p77 => ?_)
              obtain ⟨rfl, g1, ⟨f2, g2, g3⟩, K2⟩ := p77
              dsimp only [jst]
              refine j_iconst (x := 1) (t := 81) C d_T_addText_80 rfl rfl ?_
              exact j_iret C d_T_addText_81 rfl (⟨by simp [sp_addText, h5, hcx, htx], by
      simp only [sp_addText, h5, hcx, htx, if_true, nI_clamp (show N1 < 2 ^ 31 by omega)]
      refine ⟨q, un, fc, ft, fl, fs, bs, fw, fr, fu, RK_rows hRK3 hc k1b (kk k2) (fun j hj => isO_keep K73 MU.nil (k3 j hj)) (kk k4) (kk k5) (fun hk => ?_) (v := some (2, 0, tptx s N1)) (r1 := some a59) ⟨_, rfl, hV⟩ (by simp [vlen, tptx_len]) g1 g2 g3 K2⟩
      obtain ⟨b1, b2, b3, b4, b5, b6⟩ := k6 hk
      refine ⟨b1, b2, b3, fun j hj => ?_, isO_keep K73 MU.nil b5, isO_keep K73 MU.nil b6⟩
      obtain ⟨b, c1, c2⟩ := b4 j hj
      exact ⟨b, c1, isV_keep K73 MU.nil c2⟩⟩) (by omega) (by omega)
            · refine j_iconst (x := 0) (t := 57) C d_T_addText_56 rfl rfl ?_
              exact j_iret C d_T_addText_57 rfl (by first | (have hcn : cix s x = none := Option.map_eq_none_iff.mp h22; exact ⟨by simp [sp_addText, h5, hcn], by simp only [sp_addText, h5, hcn]; exact ⟨q, un, fc, ft, fl, fs, bs, fw, fr, fu, hRK2⟩⟩) | (have htx : txOK s c (nI N1) = false := txf1 h30; exact ⟨by simp [sp_addText, h5, hcx, htx], by simp only [sp_addText, h5, hcx, htx]; exact ⟨q, un, fc, ft, fl, fs, bs, fw, fr, fu, hRK2⟩⟩) | (have htx : txOK s c (nI N1) = false := txf2 h37; exact ⟨by simp [sp_addText, h5, hcx, htx], by simp only [sp_addText, h5, hcx, htx]; exact ⟨q, un, fc, ft, fl, fs, bs, fw, fr, fu, hRK2⟩⟩) | (have htx : txOK s c (nI N1) = false := txf3 h45; exact ⟨by simp [sp_addText, h5, hcx, htx], by simp only [sp_addText, h5, hcx, htx]; exact ⟨q, un, fc, ft, fl, fs, bs, fw, fr, fu, hRK2⟩⟩) | (have htx : txOK s c (nI N1) = false := txf4 h53; exact ⟨by simp [sp_addText, h5, hcx, htx], by simp only [sp_addText, h5, hcx, htx]; exact ⟨q, un, fc, ft, fl, fs, bs, fw, fr, fu, hRK2⟩⟩)) (by omega) (by omega)
  · refine j_iconst (x := 0) (t := 9) C d_T_addText_8 rfl rfl ?_
    exact j_iret C d_T_addText_9 rfl (by rw [bI_0] at h5; exact ⟨by simp [sp_addText, h5], by simp only [sp_addText, h5]; exact hR⟩) (by omega) (by omega)
