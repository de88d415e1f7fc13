set_option maxHeartbeats 4000000 in
set_option maxRecDepth 100000 in
/-- most -/
theorem c_M_mostR (l : Launch) (o : Nat) (q : Nat → Nat) (m : jM) (s : jS) (c : Nat) : MC l y_M_most b_M_most 5 (some .int) 1 0 0
    (fun G w av => (av = [.ref o, .int (nI c), .int 1] ∧ MH G w o q m ∧ rowsM s m c ∧ WF s) ∧ c < g_cc s)
    (fun G w av r w' => w' = w ∧ ((mxR (g_rf s c) (g_rc s c) = none ∧ r = some (.int (-1))) ∨ ∃ b x, b < g_rc s c ∧ g_rf s c b = some x ∧ mxR (g_rf s c) (g_rc s c) = some x ∧ r = some (.int (nI b)))) := by
  refine MC.of 99 (by decide) ?_
  intro X w av hl C hnm hp
  obtain ⟨hp, hc⟩ := hp
  obtain ⟨rfl, hM, hR, hW⟩ := hp
  obtain ⟨wtn, wtp, wcc, wln, wsn, wzn, wcol, wlit, wst, wzt⟩ := id hW
  have hcnt := hR.2.1
  have hrc := (wcol c hc).2.1
  have hty := hR.1
  refine ⟨[(0, _), (1, _), (2, _)], rfl, Nat.le_of_ble_eq_true rfl, rfl, ?_⟩
  have loop : ∀ (qq e : Nat) (v : Int32), g_rc s c + 1 ≤ e + qq → e ≤ g_rc s c → ((mxR (g_rf s c) e = none ∧ v = -1) ∨ ∃ b x, b < e ∧ g_rf s c b = some x ∧ mxR (g_rf s c) e = some x ∧ v = nI b) → J X (5, 99) (jQ X (fun r w' => w' = w ∧ ((mxR (g_rf s c) (g_rc s c) = none ∧ r = some (.int (-1))) ∨ ∃ b x, b < g_rc s c ∧ g_rf s c b = some x ∧ mxR (g_rf s c) (g_rc s c) = some x ∧ r = some (.int (nI b)))) 0 0) w 0 0 5 [(0, .ref o), (1, .int (nI c)), (2, .int 1), (3, .int v), (4, .int (nI e))] [] := by
    intro qq
    induction qq with
    | zero => intro e v h1 h2; omega
    | succ qq ih =>
      intro e v he1 he2 hinv
      rcases hinv with ⟨hv1, rfl⟩ | ⟨b, y, hb, hy, hv1, rfl⟩
      · refine j_iload (t := 7) C d_M_most_5 rfl rfl ?_
        refine j_aload_n (i := 0) (t := 8) C d_M_most_7 rfl rfl (by first | exact jrv_r | exact jrv_n | exact jrv_f) rfl ?_
        refine j_get (t := 11) C fl_M_30 d_M_most_8 hM.1 rfl rfl ?_
        refine j_iload_n (i := 1) (t := 12) C d_M_most_11 rfl rfl rfl ?_
        refine j_ld_cnt (i := c) (t := 13) C d_M_most_12 hM (by first | rfl | simp only [nI_add, nI_mul, nI_1]) (by omega) (hcnt) rfl ?_
        refine j_icmp_ge (tgt := 76) (t := 16) C d_M_most_13 (by decide) rfl (fun h13 => ?_) (fun h13 => ?_)
        · refine j_iload_n (i := 3) (t := 77) C d_M_most_76 rfl rfl rfl ?_
          exact j_iret C d_M_most_77 (by first | rfl | exact nar_b) (⟨rfl, Or.inl ⟨by rw [nI_leI (by omega) (by omega)] at h13; rw [← hv1, show g_rc s c = e by omega], rfl⟩⟩) (by omega) (by omega)
        · rw [nI_leI (by omega) (by omega)] at h13
          refine j_aload_n (i := 0) (t := 17) C d_M_most_16 rfl rfl (by first | exact jrv_r | exact jrv_n | exact jrv_f) rfl ?_
          refine j_get (t := 20) C fl_M_52 d_M_most_17 hM.1 rfl rfl ?_
          refine j_sipush (x := nI 1000) (t := 23) C d_M_most_20 rfl rfl ?_
          refine j_iload_n (i := 1) (t := 24) C d_M_most_23 rfl rfl rfl ?_
          refine j_imul (t := 25) C d_M_most_24 rfl ?_
          refine j_iload (t := 27) C d_M_most_25 rfl rfl ?_
          refine j_iadd (t := 28) C d_M_most_27 rfl ?_
          refine j_ld_has (i := 1000 * c + e) (t := 29) C d_M_most_28 hM (by first | rfl | simp only [nI_add, nI_mul, nI_1]) (by omega) ((hR.2.2 e (by omega)).1) rfl ?_
          refine j_if_eq (tgt := 70) (t := 32) C d_M_most_29 (by decide) rfl (fun h29 => ?_) (fun h29 => ?_)
          · refine j_iinc (y := _ + 1) (t := 73) (lv' := [(0, _), (1, _), (2, _), (3, _), (4, _)]) C d_M_most_70 rfl rfl (by decide) (by decide) rfl rfl ?_
            refine j_goto (tgt := 5) C d_M_most_73 (by decide) ?_
            rw [nI_1]
            first
            | exact ih (e + 1) _ (by omega) (by omega) (Or.inl ⟨(mxR_n (hs_none h29)).trans hv1, rfl⟩)
            | exact ih (e + 1) _ (by omega) (by omega) (Or.inr ⟨e, x, by omega, hx, mxR_a hx hv1, rfl⟩)
          · obtain ⟨x, hx⟩ := hs_some h29
            refine j_iload_n (i := 3) (t := 33) C d_M_most_32 rfl rfl rfl ?_
            refine j_iconst (x := (-1)) (t := 34) C d_M_most_33 rfl rfl ?_
            refine j_icmp_eq (tgt := 67) (t := 37) C d_M_most_34 (by decide) rfl (fun h34 => ?_) (fun h34 => absurd h34 (by decide))
            refine j_iload (t := 69) C d_M_most_67 rfl rfl ?_
            refine j_istore_n (i := 3) (t := 70) (lv' := [(0, _), (1, _), (2, _), (3, _), (4, _)]) C d_M_most_69 rfl (by decide) (by decide) rfl rfl ?_
            refine j_iinc (y := _ + 1) (t := 73) (lv' := [(0, _), (1, _), (2, _), (3, _), (4, _)]) C d_M_most_70 rfl rfl (by decide) (by decide) rfl rfl ?_
            refine j_goto (tgt := 5) C d_M_most_73 (by decide) ?_
            rw [nI_1]
            first
            | exact ih (e + 1) _ (by omega) (by omega) (Or.inl ⟨(mxR_n (hs_none h29)).trans hv1, rfl⟩)
            | exact ih (e + 1) _ (by omega) (by omega) (Or.inr ⟨e, x, by omega, hx, mxR_a hx hv1, rfl⟩)
      · refine j_iload (t := 7) C d_M_most_5 rfl rfl ?_
        refine j_aload_n (i := 0) (t := 8) C d_M_most_7 rfl rfl (by first | exact jrv_r | exact jrv_n | exact jrv_f) rfl ?_
        refine j_get (t := 11) C fl_M_30 d_M_most_8 hM.1 rfl rfl ?_
        refine j_iload_n (i := 1) (t := 12) C d_M_most_11 rfl rfl rfl ?_
        refine j_ld_cnt (i := c) (t := 13) C d_M_most_12 hM (by first | rfl | simp only [nI_add, nI_mul, nI_1]) (by omega) (hcnt) rfl ?_
        refine j_icmp_ge (tgt := 76) (t := 16) C d_M_most_13 (by decide) rfl (fun h13 => ?_) (fun h13 => ?_)
        · refine j_iload_n (i := 3) (t := 77) C d_M_most_76 rfl rfl rfl ?_
          exact j_iret C d_M_most_77 (by first | rfl | exact nar_b) (⟨rfl, Or.inr ⟨b, y, by omega, hy, by rw [nI_leI (by omega) (by omega)] at h13; rw [← hv1, show g_rc s c = e by omega], rfl⟩⟩) (by omega) (by omega)
        · rw [nI_leI (by omega) (by omega)] at h13
          refine j_aload_n (i := 0) (t := 17) C d_M_most_16 rfl rfl (by first | exact jrv_r | exact jrv_n | exact jrv_f) rfl ?_
          refine j_get (t := 20) C fl_M_52 d_M_most_17 hM.1 rfl rfl ?_
          refine j_sipush (x := nI 1000) (t := 23) C d_M_most_20 rfl rfl ?_
          refine j_iload_n (i := 1) (t := 24) C d_M_most_23 rfl rfl rfl ?_
          refine j_imul (t := 25) C d_M_most_24 rfl ?_
          refine j_iload (t := 27) C d_M_most_25 rfl rfl ?_
          refine j_iadd (t := 28) C d_M_most_27 rfl ?_
          refine j_ld_has (i := 1000 * c + e) (t := 29) C d_M_most_28 hM (by first | rfl | simp only [nI_add, nI_mul, nI_1]) (by omega) ((hR.2.2 e (by omega)).1) rfl ?_
          refine j_if_eq (tgt := 70) (t := 32) C d_M_most_29 (by decide) rfl (fun h29 => ?_) (fun h29 => ?_)
          · refine j_iinc (y := _ + 1) (t := 73) (lv' := [(0, _), (1, _), (2, _), (3, _), (4, _)]) C d_M_most_70 rfl rfl (by decide) (by decide) rfl rfl ?_
            refine j_goto (tgt := 5) C d_M_most_73 (by decide) ?_
            rw [nI_1]
            first
            | exact ih (e + 1) _ (by omega) (by omega) (Or.inr ⟨b, y, by omega, hy, (mxR_n (hs_none h29)).trans hv1, rfl⟩)
            | exact ih (e + 1) _ (by omega) (by omega) (Or.inr ⟨e, x, by omega, hx, mxR_b hx hv1 (Decidable.not_not.mp (fun z => h64 ((sgb_hi s60).mpr z))), rfl⟩)
            | exact ih (e + 1) _ (by omega) (by omega) (Or.inr ⟨b, y, by omega, hy, mxR_c hx hv1 ((sgb_hi s60).mp h64), rfl⟩)
          · obtain ⟨x, hx⟩ := hs_some h29
            refine j_iload_n (i := 3) (t := 33) C d_M_most_32 rfl rfl rfl ?_
            refine j_iconst (x := (-1)) (t := 34) C d_M_most_33 rfl rfl ?_
            refine j_icmp_eq (tgt := 67) (t := 37) C d_M_most_34 (by decide) rfl (fun h34 => absurd h34 (nI_m1 (by omega))) (fun h34 => ?_)
            refine j_iload_n (i := 2) (t := 38) C d_M_most_37 rfl rfl rfl ?_
            refine j_aload_n (i := 0) (t := 39) C d_M_most_38 rfl rfl (by first | exact jrv_r | exact jrv_n | exact jrv_f) rfl ?_
            refine j_aload_n (i := 0) (t := 40) C d_M_most_39 rfl rfl (by first | exact jrv_r | exact jrv_n | exact jrv_f) rfl ?_
            refine j_get (t := 43) C fl_M_27 d_M_most_40 hM.1 rfl rfl ?_
            refine j_iload_n (i := 1) (t := 44) C d_M_most_43 rfl rfl rfl ?_
            refine j_ld_ty (i := c) (t := 45) C d_M_most_44 hM (by first | rfl | simp only [nI_add, nI_mul, nI_1]) (by omega) (hty) rfl ?_
            refine j_sipush (x := nI 1000) (t := 48) C d_M_most_45 rfl rfl ?_
            refine j_iload_n (i := 1) (t := 49) C d_M_most_48 rfl rfl rfl ?_
            refine j_imul (t := 50) C d_M_most_49 rfl ?_
            refine j_iload (t := 52) C d_M_most_50 rfl rfl ?_
            refine j_iadd (t := 53) C d_M_most_52 rfl ?_
            refine j_sipush (x := nI 1000) (t := 56) C d_M_most_53 rfl rfl ?_
            refine j_iload_n (i := 1) (t := 57) C d_M_most_56 rfl rfl rfl ?_
            refine j_imul (t := 58) C d_M_most_57 rfl ?_
            refine j_iload_n (i := 3) (t := 59) C d_M_most_58 rfl rfl rfl ?_
            refine j_iadd (t := 60) C d_M_most_59 rfl ?_
            rw [nI_mul, nI_add, nI_add]
            refine j_callV (As := [_, _, _]) (t := 63) C (c_M_cmp _ o q m (g_ty s c) (1000 * c + e) (1000 * c + b) (x) (y)) d_M_most_60 jb_M_compare ml_M_116 jv_M_compare hM.1 rfl rfl rfl (Nat.le_of_ble_eq_true rfl) (by decide) (by omega) (by omega) (⟨rfl, hM, row_okR hR hW hc (by omega) hx, row_okR hR hW hc (by omega) hy⟩) rfl (fun r60 w60 p60 => ?_)
            obtain ⟨rfl, z60, rfl, s60⟩ := p60
            dsimp only [jst]
            refine j_imul (t := 64) C d_M_most_63 rfl ?_
            refine j_if_le (tgt := 70) (t := 67) C d_M_most_64 (by decide) rfl (fun h64 => ?_) (fun h64 => ?_)
            · refine j_iinc (y := _ + 1) (t := 73) (lv' := [(0, _), (1, _), (2, _), (3, _), (4, _)]) C d_M_most_70 rfl rfl (by decide) (by decide) rfl rfl ?_
              refine j_goto (tgt := 5) C d_M_most_73 (by decide) ?_
              rw [nI_1]
              first
              | exact ih (e + 1) _ (by omega) (by omega) (Or.inr ⟨b, y, by omega, hy, (mxR_n (hs_none h29)).trans hv1, rfl⟩)
              | exact ih (e + 1) _ (by omega) (by omega) (Or.inr ⟨e, x, by omega, hx, mxR_b hx hv1 (Decidable.not_not.mp (fun z => h64 ((sgb_hi s60).mpr z))), rfl⟩)
              | exact ih (e + 1) _ (by omega) (by omega) (Or.inr ⟨b, y, by omega, hy, mxR_c hx hv1 ((sgb_hi s60).mp h64), rfl⟩)
            · refine j_iload (t := 69) C d_M_most_67 rfl rfl ?_
              refine j_istore_n (i := 3) (t := 70) (lv' := [(0, _), (1, _), (2, _), (3, _), (4, _)]) C d_M_most_69 rfl (by decide) (by decide) rfl rfl ?_
              refine j_iinc (y := _ + 1) (t := 73) (lv' := [(0, _), (1, _), (2, _), (3, _), (4, _)]) C d_M_most_70 rfl rfl (by decide) (by decide) rfl rfl ?_
              refine j_goto (tgt := 5) C d_M_most_73 (by decide) ?_
              rw [nI_1]
              first
              | exact ih (e + 1) _ (by omega) (by omega) (Or.inr ⟨b, y, by omega, hy, (mxR_n (hs_none h29)).trans hv1, rfl⟩)
              | exact ih (e + 1) _ (by omega) (by omega) (Or.inr ⟨e, x, by omega, hx, mxR_b hx hv1 (Decidable.not_not.mp (fun z => h64 ((sgb_hi s60).mpr z))), rfl⟩)
              | exact ih (e + 1) _ (by omega) (by omega) (Or.inr ⟨b, y, by omega, hy, mxR_c hx hv1 ((sgb_hi s60).mp h64), rfl⟩)
  refine j_iconst (x := (-1)) (t := 1) C d_M_most_0 rfl rfl ?_
  refine j_istore_n (i := 3) (t := 2) (lv' := [(0, _), (1, _), (2, _), (3, _)]) C d_M_most_1 rfl (by decide) (by decide) rfl rfl ?_
  refine j_iconst (x := 0) (t := 3) C d_M_most_2 rfl rfl ?_
  refine j_istore (i := 4) (t := 5) (lv' := [(0, _), (1, _), (2, _), (3, _), (4, _)]) C d_M_most_3 (by decide) (by decide) rfl rfl ?_
  exact loop (g_rc s c + 1) 0 _ (by omega) (Nat.zero_le _) (Or.inl ⟨rfl, rfl⟩)


set_option maxHeartbeats 4000000 in
set_option maxRecDepth 100000 in
/-- isFirst -/
theorem c_M_firstR (l : Launch) (o : Nat) (q : Nat → Nat) (m : jM) (s : jS) (c e : Nat) : MC l y_M_isFirst b_M_isFirst 5 (some .boolean) 1 0 0
    (fun G w av => (av = [.ref o, .int (nI c), .int (nI e)] ∧ MH G w o q m ∧ rowsM s m c ∧ WF s) ∧ c < g_cc s ∧ e < g_rc s c)
    (fun G w av r w' => w' = w ∧ r = some (.int (bI (fstR (g_rf s c) e)))) := by
  refine MC.of 99 (by decide) ?_
  intro X w av hl C hnm hp
  obtain ⟨hp, hc, he⟩ := hp
  obtain ⟨rfl, hM, hR, hW⟩ := hp
  obtain ⟨wtn, wtp, wcc, wln, wsn, wzn, wcol, wlit, wst, wzt⟩ := id hW
  have hrc := (wcol c hc).2.1
  have hty := hR.1
  have hrow := (hR.2.2 e he).1
  refine ⟨[(0, _), (1, _), (2, _)], rfl, Nat.le_of_ble_eq_true rfl, rfl, ?_⟩
  cases hx : g_rf s c e with
  | none =>
    rw [hx] at hrow
    refine j_aload_n (i := 0) (t := 1) C d_M_isFirst_0 rfl rfl (by first | exact jrv_r | exact jrv_n | exact jrv_f) rfl ?_
    refine j_get (t := 4) C fl_M_52 d_M_isFirst_1 hM.1 rfl rfl ?_
    refine j_sipush (x := nI 1000) (t := 7) C d_M_isFirst_4 rfl rfl ?_
    refine j_iload_n (i := 1) (t := 8) C d_M_isFirst_7 rfl rfl rfl ?_
    refine j_imul (t := 9) C d_M_isFirst_8 rfl ?_
    refine j_iload_n (i := 2) (t := 10) C d_M_isFirst_9 rfl rfl rfl ?_
    refine j_iadd (t := 11) C d_M_isFirst_10 rfl ?_
    refine j_ld_has (i := 1000 * c + e) (t := 12) C d_M_isFirst_11 hM (by first | rfl | simp only [nI_add, nI_mul, nI_1]) (by omega) (hrow) rfl ?_
    refine j_istore_n (i := 3) (t := 13) (lv' := [(0, _), (1, _), (2, _), (3, _)]) C d_M_isFirst_12 rfl (by decide) (by decide) rfl rfl ?_
    refine j_iconst (x := 0) (t := 14) C d_M_isFirst_13 rfl rfl ?_
    refine j_istore (i := 4) (t := 16) (lv' := [(0, _), (1, _), (2, _), (3, _), (4, _)]) C d_M_isFirst_14 (by decide) (by decide) rfl rfl ?_
    refine j_iload (t := 18) C d_M_isFirst_16 rfl rfl ?_
    refine j_iload_n (i := 2) (t := 19) C d_M_isFirst_18 rfl rfl rfl ?_
    refine j_icmp_ge (tgt := 82) (t := 22) C d_M_isFirst_19 (by decide) rfl (fun h19 => ?_) (fun h19 => ?_)
    · refine j_iload_n (i := 3) (t := 83) C d_M_isFirst_82 rfl rfl rfl ?_
      exact j_iret C d_M_isFirst_83 (by first | rfl | exact nar_b) (⟨rfl, by rw [fstR_n hx]; rfl⟩) (by omega) (by omega)
    · refine j_iload_n (i := 3) (t := 23) C d_M_isFirst_22 rfl rfl rfl ?_
      refine j_if_eq (tgt := 82) (t := 26) C d_M_isFirst_23 (by decide) rfl (fun h23 => ?_) (fun h23 => absurd h23 (fun z => z rfl))
      refine j_iload_n (i := 3) (t := 83) C d_M_isFirst_82 rfl rfl rfl ?_
      exact j_iret C d_M_isFirst_83 (by first | rfl | exact nar_b) (⟨rfl, by rw [fstR_n hx]; rfl⟩) (by omega) (by omega)
  | some x =>
    rw [hx] at hrow
    have loop : ∀ (qq n : Nat) (b : Bool), e + 1 ≤ n + qq → n ≤ e → b = !eqB (g_rf s c) x n → J X (5, 99) (jQ X (fun r w' => w' = w ∧ r = some (.int (bI (fstR (g_rf s c) e)))) 0 0) w 0 0 16 [(0, .ref o), (1, .int (nI c)), (2, .int (nI e)), (3, .int (bI b)), (4, .int (nI n))] [] := by
      intro qq
      induction qq with
      | zero => intro n b h1 h2; omega
      | succ qq ih =>
        intro n b hn1 hn2 hb
        refine j_iload (t := 18) C d_M_isFirst_16 rfl rfl ?_
        refine j_iload_n (i := 2) (t := 19) C d_M_isFirst_18 rfl rfl rfl ?_
        refine j_icmp_ge (tgt := 82) (t := 22) C d_M_isFirst_19 (by decide) rfl (fun h19 => ?_) (fun h19 => ?_)
        · refine j_iload_n (i := 3) (t := 83) C d_M_isFirst_82 rfl rfl rfl ?_
          exact j_iret C d_M_isFirst_83 (by first | rfl | exact nar_b) (⟨rfl, by rw [fstR_s hx]; first | (rw [nI_leI (by omega) (by omega)] at h19; rw [hb, show n = e by omega]) | (rw [bI_0] at h23; rw [h23, eq_comm, Bool.not_eq_false'] at hb; rw [h23, eqB_mono hb hn2]; rfl)⟩) (by omega) (by omega)
        · rw [nI_leI (by omega) (by omega)] at h19
          refine j_iload_n (i := 3) (t := 23) C d_M_isFirst_22 rfl rfl rfl ?_
          refine j_if_eq (tgt := 82) (t := 26) C d_M_isFirst_23 (by decide) rfl (fun h23 => ?_) (fun h23 => ?_)
          · refine j_iload_n (i := 3) (t := 83) C d_M_isFirst_82 rfl rfl rfl ?_
            exact j_iret C d_M_isFirst_83 (by first | rfl | exact nar_b) (⟨rfl, by rw [fstR_s hx]; first | (rw [nI_leI (by omega) (by omega)] at h19; rw [hb, show n = e by omega]) | (rw [bI_0] at h23; rw [h23, eq_comm, Bool.not_eq_false'] at hb; rw [h23, eqB_mono hb hn2]; rfl)⟩) (by omega) (by omega)
          · rw [bI_0, Bool.not_eq_false] at h23
            rw [h23, eq_comm, Bool.not_eq_true'] at hb
            refine j_aload_n (i := 0) (t := 27) C d_M_isFirst_26 rfl rfl (by first | exact jrv_r | exact jrv_n | exact jrv_f) rfl ?_
            refine j_get (t := 30) C fl_M_52 d_M_isFirst_27 hM.1 rfl rfl ?_
            refine j_sipush (x := nI 1000) (t := 33) C d_M_isFirst_30 rfl rfl ?_
            refine j_iload_n (i := 1) (t := 34) C d_M_isFirst_33 rfl rfl rfl ?_
            refine j_imul (t := 35) C d_M_isFirst_34 rfl ?_
            refine j_iload (t := 37) C d_M_isFirst_35 rfl rfl ?_
            refine j_iadd (t := 38) C d_M_isFirst_37 rfl ?_
            refine j_ld_has (i := 1000 * c + n) (t := 39) C d_M_isFirst_38 hM (by first | rfl | simp only [nI_add, nI_mul, nI_1]) (by omega) ((hR.2.2 n (by omega)).1) rfl ?_
            refine j_if_eq (tgt := 70) (t := 42) C d_M_isFirst_39 (by decide) rfl (fun h39 => ?_) (fun h39 => ?_)
            · refine j_iconst (x := 1) (t := 71) C d_M_isFirst_70 rfl rfl ?_
              refine j_goto (tgt := 75) C d_M_isFirst_71 (by decide) ?_
              refine j_istore_n (i := 3) (t := 76) (lv' := [(0, _), (1, _), (2, _), (3, _), (4, _)]) C d_M_isFirst_75 rfl (by decide) (by decide) rfl rfl ?_
              refine j_iinc (y := _ + 1) (t := 79) (lv' := [(0, _), (1, _), (2, _), (3, _), (4, _)]) C d_M_isFirst_76 rfl rfl (by decide) (by decide) rfl rfl ?_
              refine j_goto (tgt := 16) C d_M_isFirst_79 (by decide) ?_
              rw [nI_1]
              first
              | exact ih (n + 1) true (by omega) (by omega) (by rw [eqB_n hb (hs_none h39)]; rfl)
              | exact ih (n + 1) true (by omega) (by omega) (by rw [eqB_f hb hy (fun z => h67 (s64.1.2.mpr z))]; rfl)
              | exact ih (n + 1) false (by omega) (by omega) (by rw [eqB_t hy (s64.1.2.mp h67)]; rfl)
            · obtain ⟨y, hy⟩ := hs_some h39
              refine j_aload_n (i := 0) (t := 43) C d_M_isFirst_42 rfl rfl (by first | exact jrv_r | exact jrv_n | exact jrv_f) rfl ?_
              refine j_aload_n (i := 0) (t := 44) C d_M_isFirst_43 rfl rfl (by first | exact jrv_r | exact jrv_n | exact jrv_f) rfl ?_
              refine j_get (t := 47) C fl_M_27 d_M_isFirst_44 hM.1 rfl rfl ?_
              refine j_iload_n (i := 1) (t := 48) C d_M_isFirst_47 rfl rfl rfl ?_
              refine j_ld_ty (i := c) (t := 49) C d_M_isFirst_48 hM (by first | rfl | simp only [nI_add, nI_mul, nI_1]) (by omega) (hty) rfl ?_
              refine j_sipush (x := nI 1000) (t := 52) C d_M_isFirst_49 rfl rfl ?_
              refine j_iload_n (i := 1) (t := 53) C d_M_isFirst_52 rfl rfl rfl ?_
              refine j_imul (t := 54) C d_M_isFirst_53 rfl ?_
              refine j_iload (t := 56) C d_M_isFirst_54 rfl rfl ?_
              refine j_iadd (t := 57) C d_M_isFirst_56 rfl ?_
              refine j_sipush (x := nI 1000) (t := 60) C d_M_isFirst_57 rfl rfl ?_
              refine j_iload_n (i := 1) (t := 61) C d_M_isFirst_60 rfl rfl rfl ?_
              refine j_imul (t := 62) C d_M_isFirst_61 rfl ?_
              refine j_iload_n (i := 2) (t := 63) C d_M_isFirst_62 rfl rfl rfl ?_
              refine j_iadd (t := 64) C d_M_isFirst_63 rfl ?_
              rw [nI_mul, nI_add, nI_add]
              refine j_callV (As := [_, _, _]) (t := 67) C (c_M_cmp _ o q m (g_ty s c) (1000 * c + n) (1000 * c + e) (y) (x)) d_M_isFirst_64 jb_M_compare ml_M_116 jv_M_compare hM.1 rfl rfl rfl (Nat.le_of_ble_eq_true rfl) (by decide) (by omega) (by omega) (⟨rfl, hM, row_okR hR hW hc (by omega) hy, row_okR hR hW hc he hx⟩) rfl (fun r64 w64 p64 => ?_)
              obtain ⟨rfl, z64, rfl, s64⟩ := p64
              dsimp only [jst]
              refine j_if_eq (tgt := 74) (t := 70) C d_M_isFirst_67 (by decide) rfl (fun h67 => ?_) (fun h67 => ?_)
              · refine j_iconst (x := 0) (t := 75) C d_M_isFirst_74 rfl rfl ?_
                refine j_istore_n (i := 3) (t := 76) (lv' := [(0, _), (1, _), (2, _), (3, _), (4, _)]) C d_M_isFirst_75 rfl (by decide) (by decide) rfl rfl ?_
                refine j_iinc (y := _ + 1) (t := 79) (lv' := [(0, _), (1, _), (2, _), (3, _), (4, _)]) C d_M_isFirst_76 rfl rfl (by decide) (by decide) rfl rfl ?_
                refine j_goto (tgt := 16) C d_M_isFirst_79 (by decide) ?_
                rw [nI_1]
                first
                | exact ih (n + 1) true (by omega) (by omega) (by rw [eqB_n hb (hs_none h39)]; rfl)
                | exact ih (n + 1) true (by omega) (by omega) (by rw [eqB_f hb hy (fun z => h67 (s64.1.2.mpr z))]; rfl)
                | exact ih (n + 1) false (by omega) (by omega) (by rw [eqB_t hy (s64.1.2.mp h67)]; rfl)
              · refine j_iconst (x := 1) (t := 71) C d_M_isFirst_70 rfl rfl ?_
                refine j_goto (tgt := 75) C d_M_isFirst_71 (by decide) ?_
                refine j_istore_n (i := 3) (t := 76) (lv' := [(0, _), (1, _), (2, _), (3, _), (4, _)]) C d_M_isFirst_75 rfl (by decide) (by decide) rfl rfl ?_
                refine j_iinc (y := _ + 1) (t := 79) (lv' := [(0, _), (1, _), (2, _), (3, _), (4, _)]) C d_M_isFirst_76 rfl rfl (by decide) (by decide) rfl rfl ?_
                refine j_goto (tgt := 16) C d_M_isFirst_79 (by decide) ?_
                rw [nI_1]
                first
                | exact ih (n + 1) true (by omega) (by omega) (by rw [eqB_n hb (hs_none h39)]; rfl)
                | exact ih (n + 1) true (by omega) (by omega) (by rw [eqB_f hb hy (fun z => h67 (s64.1.2.mpr z))]; rfl)
                | exact ih (n + 1) false (by omega) (by omega) (by rw [eqB_t hy (s64.1.2.mp h67)]; rfl)
    refine j_aload_n (i := 0) (t := 1) C d_M_isFirst_0 rfl rfl (by first | exact jrv_r | exact jrv_n | exact jrv_f) rfl ?_
    refine j_get (t := 4) C fl_M_52 d_M_isFirst_1 hM.1 rfl rfl ?_
    refine j_sipush (x := nI 1000) (t := 7) C d_M_isFirst_4 rfl rfl ?_
    refine j_iload_n (i := 1) (t := 8) C d_M_isFirst_7 rfl rfl rfl ?_
    refine j_imul (t := 9) C d_M_isFirst_8 rfl ?_
    refine j_iload_n (i := 2) (t := 10) C d_M_isFirst_9 rfl rfl rfl ?_
    refine j_iadd (t := 11) C d_M_isFirst_10 rfl ?_
    refine j_ld_has (i := 1000 * c + e) (t := 12) C d_M_isFirst_11 hM (by first | rfl | simp only [nI_add, nI_mul, nI_1]) (by omega) (hrow) rfl ?_
    refine j_istore_n (i := 3) (t := 13) (lv' := [(0, _), (1, _), (2, _), (3, _)]) C d_M_isFirst_12 rfl (by decide) (by decide) rfl rfl ?_
    refine j_iconst (x := 0) (t := 14) C d_M_isFirst_13 rfl rfl ?_
    refine j_istore (i := 4) (t := 16) (lv' := [(0, _), (1, _), (2, _), (3, _), (4, _)]) C d_M_isFirst_14 (by decide) (by decide) rfl rfl ?_
    exact loop (e + 1) 0 true (by omega) (Nat.zero_le _) rfl
