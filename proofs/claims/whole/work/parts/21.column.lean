set_option maxHeartbeats 4000000 in
set_option maxRecDepth 100000 in
/-- removeRows -/
theorem c_C_removeRows (l : Launch) (a ra : Nat) (ty rc tb kn kr km : Int32) (lo hi : Option Nat) (ea : Nat) (ec : Int32) (sa : Nat) : MC l y_C_removeRows b_C_removeRows 1 (none) 0 0 0
    (fun G w av => av = [.ref a] ∧ jh w a (eO cC (kFs ty ra rc tb kn kr km lo hi ea ec sa)))
    (fun G w av r w' => r = none ∧ jh w' a (eO cC (kFs ty ra 0 0 kn kr km lo hi ea ec sa)) ∧ KA w w' [a]) := by
  refine MC.of 99 (by decide) ?_
  intro X w av hl C hnm hp
  obtain ⟨rfl, ha⟩ := hp
  refine ⟨[(0, _)], rfl, Nat.le_of_ble_eq_true rfl, rfl, ?_⟩
  refine j_aload_n (i := 0) (t := 1) C d_C_removeRows_0 rfl rfl (by first | exact jrv_r | exact jrv_n | exact jrv_f) rfl ?_
  refine j_iconst (x := 0) (t := 2) C d_C_removeRows_1 rfl rfl ?_
  refine j_putW (t := 5) C fp_C_17 d_C_removeRows_2 (by assumption) (by first | rfl | exact jnar_rf) (by first | rfl | exact jfit_rf) (by first | exact Nat.le_of_ble_eq_true rfl | (simp only [List.length_set]; omega)) rfl (fun w2 e2 h2 f2 => ?_)
  refine j_aload_n (i := 0) (t := 6) C d_C_removeRows_5 rfl rfl (by first | exact jrv_r | exact jrv_n | exact jrv_f) rfl ?_
  refine j_iconst (x := 0) (t := 7) C d_C_removeRows_6 rfl rfl ?_
  refine j_putW (t := 10) C fp_C_21 d_C_removeRows_7 (by assumption) (by first | rfl | exact jnar_rf) (by first | rfl | exact jfit_rf) (by first | exact Nat.le_of_ble_eq_true rfl | (simp only [List.length_set]; omega)) rfl (fun w7 e7 h7 f7 => ?_)
  exact j_vret C d_C_removeRows_10 (⟨rfl, h7, (KA.rf.put f2 (by simp)).put f7 (by simp)⟩) (by omega) (by omega)
theorem fill_next {f fi : Nat → Option Nat} {rc i : Nat} {r1 : Option Nat} (h : ∀ j, fi j = if rc ≤ j ∧ j < rc + i then r1 else f j) (j : Nat) : va_up fi (rc + i) r1 j = if rc ≤ j ∧ j < rc + (i + 1) then r1 else f j := by
  by_cases q : j = rc + i
  · subst q
    rw [va_up_self, if_pos (by omega)]
  · rw [va_up_ne _ _ q, h j]
    by_cases q2 : rc ≤ j ∧ j < rc + i
    · rw [if_pos q2, if_pos (by omega)]
    · rw [if_neg q2, if_neg (by omega)]
set_option maxHeartbeats 4000000 in
set_option maxRecDepth 100000 in
/-- append: n rows more -/
theorem c_C_append (l : Launch) (a ra : Nat) (ty kn kr km : Int32) (lo hi : Option Nat) (ea : Nat) (ec : Int32) (sa : Nat) (rc tb n tx : Nat) (f : Nat → Option Nat) (r1 : Option Nat) : MC l y_C_append b_C_append 4 (none) 0 0 0
    (fun G w av => av = [.ref a, va_rf r1, .int (nI n)] ∧ jh w a (eO cC (kFs ty ra (nI rc) (nI tb) kn kr km lo hi ea ec sa)) ∧ jh w ra (eR G 5 1000 f) ∧ rc + n ≤ 1000 ∧ (∀ b, r1 = some b → ∃ x, isV G w b x ∧ x.2.2.length = tx) ∧ (r1 = none → tx = 0))
    (fun G w av r w' => r = none ∧ jh w' a (eO cC (kFs ty ra (nI (rc + n)) (nI (tb + tx)) kn kr km lo hi ea ec sa)) ∧ (∃ f', jh w' ra (eR G 5 1000 f') ∧ ∀ j, f' j = if rc ≤ j ∧ j < rc + n then r1 else f j) ∧ KA w w' [a, ra]) := by
  refine MC.of 99 (by decide) ?_
  intro X w av hl C hnm hp
  obtain ⟨rfl, ha, hra, hn, hv, hv0⟩ := hp
  have hne : a ≠ ra := jh_ne ha hra (by simp)
  have hM : MU (xG X) w [a, ra] := MU.cons ha mE_C (MU.cons hra mE_R MU.nil)
  refine ⟨[(0, .ref a), (1, va_rf r1), (2, .int (nI n))], by cases r1 <;> rfl, by cases r1 <;> exact Nat.le_of_ble_eq_true rfl, by cases r1 <;> rfl, ?_⟩
  have loop : ∀ (q i : Nat) (wi : jw) (fi : Nat → Option Nat), n + 1 ≤ i + q → i ≤ n → jh wi a (eO cC (kFs ty ra (nI (rc + i)) (nI tb) kn kr km lo hi ea ec sa)) → jh wi ra (eR (xG X) 5 1000 fi) → (∀ j, fi j = if rc ≤ j ∧ j < rc + i then r1 else f j) → KA w wi [a, ra] → J X (4, 99) (jQ X (fun r w' => r = none ∧ jh w' a (eO cC (kFs ty ra (nI (rc + n)) (nI (tb + tx)) kn kr km lo hi ea ec sa)) ∧ (∃ f', jh w' ra (eR (xG X) 5 1000 f') ∧ ∀ j, f' j = if rc ≤ j ∧ j < rc + n then r1 else f j) ∧ KA w w' [a, ra]) 0 0) wi 0 0 2 [(0, .ref a), (1, va_rf r1), (2, .int (nI n)), (3, .int (nI i))] [] := by
    intro q
    induction q with
    | zero => intro i wi fi h1 h2; omega
    | succ q ih =>
      intro i wi fi hi1 hi2 hai hri hfi hKi
      refine j_iload_n (i := 3) (t := 3) C d_C_append_2 rfl rfl rfl ?_
      refine j_iload_n (i := 2) (t := 4) C d_C_append_3 rfl rfl rfl ?_
      refine j_icmp_ge (tgt := 43) (t := 7) C d_C_append_4 (by decide) rfl (fun h4 => ?_) (fun h4 => ?_)
      · have hin2 : i = n := by rw [nI_leI (by omega) (by omega)] at h4; omega
        subst hin2
        refine j_aload_n (i := 1) (t := 44) C d_C_append_43 rfl rfl (by first | exact jrv_r | exact jrv_n | exact jrv_f) rfl ?_
        refine j_ifnull (tgt := 61) (t := 47) C d_C_append_44 (by decide) rfl (fun h44 => ?_) (fun a44 h44 => ?_)
        · exact j_vret C d_C_append_61 (by first | exact ⟨rfl, by rw [hv0 h44, Nat.add_zero]; exact hai, ⟨fi, hri, hfi⟩, hKi⟩ | exact ⟨rfl, by rw [nI_add] at h58; rw [← hxl]; exact h58, ⟨fi, f58 _ _ hne.symm hri, hfi⟩, hKi.put f58 (by simp)⟩) (by omega) (by omega)
        · obtain ⟨x, hx, hxl⟩ := hv _ h44
          obtain ⟨t1, hxo, hxt⟩ := isV_keep hKi hM hx
          refine j_lv (lv' := [(0, .ref a), (1, .ref a44), (2, .int (nI i)), (3, .int (nI i))]) (by rw [h44]; rfl) rfl ?_
          refine j_aload_n (i := 0) (t := 48) C d_C_append_47 rfl rfl (by first | exact jrv_r | exact jrv_n | exact jrv_f) rfl ?_
          refine j_dup (t := 49) C d_C_append_48 rfl rfl ?_
          refine j_get (t := 52) C fl_C_21 d_C_append_49 (by assumption) (by first | rfl | assumption) rfl ?_
          refine j_aload_n (i := 1) (t := 53) C d_C_append_52 rfl rfl (by first | exact jrv_r | exact jrv_n | exact jrv_f) rfl ?_
          refine j_get (t := 56) C fl_C_53 d_C_append_53 (by assumption) (by first | rfl | assumption) rfl ?_
          refine j_tlen (t := 57) C d_C_append_56 hxt rfl ?_
          refine j_iadd (t := 58) C d_C_append_57 rfl ?_
          refine j_putW (t := 61) C fp_C_21 d_C_append_58 (by assumption) (by first | rfl | exact jnar_rf) (by first | rfl | exact jfit_rf) (by first | exact Nat.le_of_ble_eq_true rfl | (simp only [List.length_set]; omega)) rfl (fun w58 e58 h58 f58 => ?_)
          exact j_vret C d_C_append_61 (by first | exact ⟨rfl, by rw [hv0 h44, Nat.add_zero]; exact hai, ⟨fi, hri, hfi⟩, hKi⟩ | exact ⟨rfl, by rw [nI_add] at h58; rw [← hxl]; exact h58, ⟨fi, f58 _ _ hne.symm hri, hfi⟩, hKi.put f58 (by simp)⟩) (by omega) (by omega)
      · rw [nI_leI (by omega) (by omega)] at h4
        refine j_aload_n (i := 0) (t := 8) C d_C_append_7 rfl rfl (by first | exact jrv_r | exact jrv_n | exact jrv_f) rfl ?_
        refine j_get (t := 11) C fl_C_17 d_C_append_8 (by assumption) (by first | rfl | assumption) rfl ?_
        refine j_sipush (x := 1000) (t := 14) C d_C_append_11 rfl rfl ?_
        refine j_icmp_ge (tgt := 43) (t := 17) C d_C_append_14 (by decide) rfl (fun h14 => absurd h14 (nI_ge (b := 1000) (show rc + i < 1000 by omega) (by decide))) (fun h14 => ?_)
        have hin : vp_in (nI (rc + i)) 1000 := vp_in_nI (by omega) (by omega)
        have hvi : ∀ b, r1 = some b → ∃ fs, jh wi b (eO cV fs) := fun b hb => by
          obtain ⟨x, hx, -⟩ := hv b hb
          obtain ⟨t, ht, -⟩ := isV_keep hKi hM hx
          exact ⟨_, ht⟩
        refine j_aload_n (i := 0) (t := 18) C d_C_append_17 rfl rfl (by first | exact jrv_r | exact jrv_n | exact jrv_f) rfl ?_
        refine j_get (t := 21) C fl_C_11 d_C_append_18 (by assumption) (by first | rfl | assumption) rfl ?_
        refine j_aload_n (i := 0) (t := 22) C d_C_append_21 rfl rfl (by first | exact jrv_r | exact jrv_n | exact jrv_f) rfl ?_
        refine j_get (t := 25) C fl_C_17 d_C_append_22 (by assumption) (by first | rfl | assumption) rfl ?_
        refine j_aload_n (i := 1) (t := 26) C d_C_append_25 rfl rfl (by first | exact jrv_r | exact jrv_n | exact jrv_f) rfl ?_
        refine j_aastoreW (t := 27) C d_C_append_26 (by assumption) (hvi) rfl rfl (by assumption) rfl (fun w26 e26 h26 f26 => ?_)
        have hai2 := f26 _ _ hne hai
        refine j_aload_n (i := 0) (t := 28) C d_C_append_27 rfl rfl (by first | exact jrv_r | exact jrv_n | exact jrv_f) rfl ?_
        refine j_dup (t := 29) C d_C_append_28 rfl rfl ?_
        refine j_get (t := 32) C fl_C_17 d_C_append_29 (by assumption) (by first | rfl | assumption) rfl ?_
        refine j_iconst (x := 1) (t := 33) C d_C_append_32 rfl rfl ?_
        refine j_iadd (t := 34) C d_C_append_33 rfl ?_
        refine j_putW (t := 37) C fp_C_17 d_C_append_34 (by assumption) (by first | rfl | exact jnar_rf) (by first | rfl | exact jfit_rf) (by first | exact Nat.le_of_ble_eq_true rfl | (simp only [List.length_set]; omega)) rfl (fun w34 e34 h34 f34 => ?_)
        have hri2 := f34 _ _ hne.symm h26
        refine j_iinc (y := _ + 1) (t := 40) (lv' := [(0, _), (1, _), (2, _), (3, _)]) C d_C_append_37 rfl rfl (by decide) (by decide) rfl rfl ?_
        refine j_goto (tgt := 2) C d_C_append_40 (by decide) ?_
        rw [nI_1]
        refine ih (i + 1) w34 _ (by omega) (by omega) (by rw [nI_1] at h34; exact h34) hri2 (fun j => ?_) ((hKi.put f26 (by simp)).put f34 (by simp))
        rw [nI_clamp (by omega)]
        exact fill_next hfi j
  refine j_iconst (x := 0) (t := 1) C d_C_append_0 rfl rfl ?_
  refine j_istore_n (i := 3) (t := 2) (lv' := [(0, _), (1, _), (2, _), (3, _)]) C d_C_append_1 rfl (by decide) (by decide) rfl rfl ?_
  exact loop (n + 1) 0 w f (by omega) (Nat.zero_le _) ha hra (fun j => by rw [if_neg (by omega)]) KA.rf
set_option maxHeartbeats 4000000 in
set_option maxRecDepth 100000 in
/-- learn: what is known of a column -/
theorem c_C_learn (l : Launch) (a ra : Nat) (ty tb kn kr km : Int32) (lo hi : Option Nat) (ea : Nat) (ec : Int32) (sa : Nat) (rc : Nat) (f : Nat → Option Nat) (rf : Nat → Option jv) (al1 ms1 : Int32) : MC l y_C_learn b_C_learn 7 (some .boolean) 1 0 0
    (fun G w av => av = [.ref a, .int al1, .int ms1] ∧ jh w a (eO cC (kFs ty ra (nI rc) tb kn kr km lo hi ea ec sa)) ∧ jh w ra (eR G 5 1000 f) ∧ rc ≤ 1000 ∧ ∀ j, j < rc → isO G w (f j) (rf j))
    (fun G w av r w' => ∃ lw hg, isO G w lw (mnR rf rc) ∧ isO G w hg (mxR rf rc) ∧ ((lw = none ∧ ms1 < al1 ∧ r = some (.int 0) ∧ w' = w) ∨ (¬ (lw = none ∧ ms1 < al1) ∧ r = some (.int 1) ∧ jh w' a (eO cC (kFs ty ra (nI rc) tb 1 al1 ms1 lw hg ea 0 sa)) ∧ KA w w' [a]))) := by
  refine MC.of 99 (by decide) ?_
  intro X w av hl C hnm hp
  obtain ⟨rfl, ha, hra, hrc, hf⟩ := hp
  refine ⟨[(0, _), (1, _), (2, _)], rfl, Nat.le_of_ble_eq_true rfl, rfl, ?_⟩
  have loop : ∀ (q i : Nat) (lw hg : Option Nat), rc + 1 ≤ i + q → i ≤ rc → isO (xG X) w lw (mnR rf i) → isO (xG X) w hg (mxR rf i) → J X (7, 99) (jQ X (fun r w' => ∃ lw hg, isO (xG X) w lw (mnR rf rc) ∧ isO (xG X) w hg (mxR rf rc) ∧ ((lw = none ∧ ms1 < al1 ∧ r = some (.int 0) ∧ w' = w) ∨ (¬ (lw = none ∧ ms1 < al1) ∧ r = some (.int 1) ∧ jh w' a (eO cC (kFs ty ra (nI rc) tb 1 al1 ms1 lw hg ea 0 sa)) ∧ KA w w' [a]))) 0 0) w 0 0 8 [(0, .ref a), (1, .int al1), (2, .int ms1), (3, va_rf lw), (4, va_rf hg), (5, .int (nI i))] [] := by
    intro q
    induction q with
    | zero => intro i lw hg h1 h2; omega
    | succ q ih =>
      intro i lw hg hi1 hi2 hlw hhg
      have second : ∀ (lw2 : Option Nat) (b : Nat) (x : jv), i < rc → f i = some b → rf i = some x → isV (xG X) w b x → isO (xG X) w lw2 (mnR rf (i + 1)) → J X (7, 99) (jQ X (fun r w' => ∃ lw hg, isO (xG X) w lw (mnR rf rc) ∧ isO (xG X) w hg (mxR rf rc) ∧ ((lw = none ∧ ms1 < al1 ∧ r = some (.int 0) ∧ w' = w) ∨ (¬ (lw = none ∧ ms1 < al1) ∧ r = some (.int 1) ∧ jh w' a (eO cC (kFs ty ra (nI rc) tb 1 al1 ms1 lw hg ea 0 sa)) ∧ KA w w' [a]))) 0 0) w 0 0 51 [(0, .ref a), (1, .int al1), (2, .int ms1), (3, va_rf lw2), (4, va_rf hg), (5, .int (nI i)), (6, .ref b)] [] := by
        intro lw2 b x hlt hfb hrx hx hlw2
        obtain ⟨tx, hxo, -⟩ := id hx
        refine j_aload (t := 53) C d_C_learn_51 rfl (by first | exact jrv_r | exact jrv_n | exact jrv_f) rfl ?_
        refine j_ifnull (tgt := 66) (t := 56) C d_C_learn_53 (by decide) rfl (fun h53 => ?_) (fun a53 h53 => ?_)
        · refine j_aload (t := 68) C d_C_learn_66 rfl (by first | exact jrv_r | exact jrv_n | exact jrv_f) rfl ?_
          refine j_goto (tgt := 73) C d_C_learn_68 (by decide) ?_
          refine j_astore (i := 4) (t := 75) (lv' := [(0, _), (1, _), (2, _), (3, _), (4, _), (5, _), (6, _)]) C d_C_learn_73 (by first | exact jrv_r | exact jrv_n | exact jrv_f) (by decide) (by decide) rfl rfl ?_
          refine j_iinc (y := _ + 1) (t := 78) (lv' := [(0, _), (1, _), (2, _), (3, _), (4, _), (5, _), (6, _)]) C d_C_learn_75 rfl rfl (by decide) (by decide) rfl rfl ?_
          refine j_goto (tgt := 8) C d_C_learn_78 (by decide) ?_
          refine j_pick [0, 1, 2, 3, 4, 5] rfl ?_
          rw [nI_1]
          first | exact ih (i + 1) lw2 (some b) (by omega) (by omega) hlw2 ⟨x, mxR_b hrx hy1 ((sg_gt s60).mp (by simpa using h63)), hx⟩ | exact ih (i + 1) lw2 (some a53) (by omega) (by omega) hlw2 ⟨y, mxR_c hrx hy1 (fun z => absurd ((sg_gt s60).mpr z) (by simpa using h63)), hy⟩ | exact ih (i + 1) lw2 (some b) (by omega) (by omega) hlw2 ⟨x, mxR_a hrx (isO_none (by rw [h53] at hhg; exact hhg)), hx⟩
        · rw [h53] at hhg
          obtain ⟨y, hy1, hy⟩ := isO_some hhg
          refine j_aload (t := 58) C d_C_learn_56 rfl (by first | exact jrv_r | exact jrv_n | exact jrv_f) rfl ?_
          refine j_aload (t := 60) C d_C_learn_58 rfl (by first | exact jrv_r | exact jrv_n | exact jrv_f) rfl ?_
          rw [h53]
          refine j_callV (As := [_]) (t := 63) C (c_V_order _ b a53 x y) d_C_learn_60 jb_V_order ml_C_57 jv_V_order (by assumption) rfl rfl rfl (Nat.le_of_ble_eq_true rfl) (by decide) (by omega) (by omega) (⟨rfl, hx, hy⟩) rfl (fun r60 w60 p60 => ?_)
          obtain ⟨rfl, i60, rfl, s60⟩ := p60
          dsimp only [jst]
          refine j_if_le (tgt := 71) (t := 66) C d_C_learn_63 (by decide) rfl (fun h63 => ?_) (fun h63 => ?_)
          · refine j_aload (t := 73) C d_C_learn_71 rfl (by first | exact jrv_r | exact jrv_n | exact jrv_f) rfl ?_
            refine j_astore (i := 4) (t := 75) (lv' := [(0, _), (1, _), (2, _), (3, _), (4, _), (5, _), (6, _)]) C d_C_learn_73 (by first | exact jrv_r | exact jrv_n | exact jrv_f) (by decide) (by decide) rfl rfl ?_
            refine j_iinc (y := _ + 1) (t := 78) (lv' := [(0, _), (1, _), (2, _), (3, _), (4, _), (5, _), (6, _)]) C d_C_learn_75 rfl rfl (by decide) (by decide) rfl rfl ?_
            refine j_goto (tgt := 8) C d_C_learn_78 (by decide) ?_
            refine j_pick [0, 1, 2, 3, 4, 5] rfl ?_
            rw [nI_1]
            first | exact ih (i + 1) lw2 (some b) (by omega) (by omega) hlw2 ⟨x, mxR_b hrx hy1 ((sg_gt s60).mp (by simpa using h63)), hx⟩ | exact ih (i + 1) lw2 (some a53) (by omega) (by omega) hlw2 ⟨y, mxR_c hrx hy1 (fun z => absurd ((sg_gt s60).mpr z) (by simpa using h63)), hy⟩ | exact ih (i + 1) lw2 (some b) (by omega) (by omega) hlw2 ⟨x, mxR_a hrx (isO_none (by rw [h53] at hhg; exact hhg)), hx⟩
          · refine j_aload (t := 68) C d_C_learn_66 rfl (by first | exact jrv_r | exact jrv_n | exact jrv_f) rfl ?_
            refine j_goto (tgt := 73) C d_C_learn_68 (by decide) ?_
            refine j_astore (i := 4) (t := 75) (lv' := [(0, _), (1, _), (2, _), (3, _), (4, _), (5, _), (6, _)]) C d_C_learn_73 (by first | exact jrv_r | exact jrv_n | exact jrv_f) (by decide) (by decide) rfl rfl ?_
            refine j_iinc (y := _ + 1) (t := 78) (lv' := [(0, _), (1, _), (2, _), (3, _), (4, _), (5, _), (6, _)]) C d_C_learn_75 rfl rfl (by decide) (by decide) rfl rfl ?_
            refine j_goto (tgt := 8) C d_C_learn_78 (by decide) ?_
            refine j_pick [0, 1, 2, 3, 4, 5] rfl ?_
            rw [nI_1]
            first | exact ih (i + 1) lw2 (some b) (by omega) (by omega) hlw2 ⟨x, mxR_b hrx hy1 ((sg_gt s60).mp (by simpa using h63)), hx⟩ | exact ih (i + 1) lw2 (some a53) (by omega) (by omega) hlw2 ⟨y, mxR_c hrx hy1 (fun z => absurd ((sg_gt s60).mpr z) (by simpa using h63)), hy⟩ | exact ih (i + 1) lw2 (some b) (by omega) (by omega) hlw2 ⟨x, mxR_a hrx (isO_none (by rw [h53] at hhg; exact hhg)), hx⟩
      refine j_iload (t := 10) C d_C_learn_8 rfl rfl ?_
      refine j_aload_n (i := 0) (t := 11) C d_C_learn_10 rfl rfl (by first | exact jrv_r | exact jrv_n | exact jrv_f) rfl ?_
      refine j_get (t := 14) C fl_C_17 d_C_learn_11 (by assumption) (by first | rfl | assumption) rfl ?_
      refine j_icmp_ge (tgt := 81) (t := 17) C d_C_learn_14 (by decide) rfl (fun h14 => ?_) (fun h14 => ?_)
      · have hie : i = rc := by rw [nI_leI (by omega) (by omega)] at h14; omega
        subst hie
        refine j_aload_n (i := 3) (t := 82) C d_C_learn_81 rfl rfl (by first | exact jrv_r | exact jrv_n | exact jrv_f) rfl ?_
        refine j_ifnonnull (tgt := 92) (t := 85) C d_C_learn_82 (by decide) rfl (fun a82 h82 => ?_) (fun h82 => ?_)
        · refine j_aload_n (i := 0) (t := 93) C d_C_learn_92 rfl rfl (by first | exact jrv_r | exact jrv_n | exact jrv_f) rfl ?_
          refine j_iconst (x := 1) (t := 94) C d_C_learn_93 rfl rfl ?_
          refine j_putW (t := 97) C fp_C_24 d_C_learn_94 (by assumption) (by first | rfl | exact jnar_rf) (by first | rfl | exact jfit_rf) (by first | exact Nat.le_of_ble_eq_true rfl | (simp only [List.length_set]; omega)) rfl (fun w94 e94 h94 f94 => ?_)
          refine j_aload_n (i := 0) (t := 98) C d_C_learn_97 rfl rfl (by first | exact jrv_r | exact jrv_n | exact jrv_f) rfl ?_
          refine j_iload_n (i := 1) (t := 99) C d_C_learn_98 rfl rfl rfl ?_
          refine j_putW (t := 102) C fp_C_28 d_C_learn_99 (by assumption) (by first | rfl | exact jnar_rf) (by first | rfl | exact jfit_rf) (by first | exact Nat.le_of_ble_eq_true rfl | (simp only [List.length_set]; omega)) rfl (fun w99 e99 h99 f99 => ?_)
          refine j_aload_n (i := 0) (t := 103) C d_C_learn_102 rfl rfl (by first | exact jrv_r | exact jrv_n | exact jrv_f) rfl ?_
          refine j_iload_n (i := 2) (t := 104) C d_C_learn_103 rfl rfl rfl ?_
          refine j_putW (t := 107) C fp_C_31 d_C_learn_104 (by assumption) (by first | rfl | exact jnar_rf) (by first | rfl | exact jfit_rf) (by first | exact Nat.le_of_ble_eq_true rfl | (simp only [List.length_set]; omega)) rfl (fun w104 e104 h104 f104 => ?_)
          refine j_aload_n (i := 0) (t := 108) C d_C_learn_107 rfl rfl (by first | exact jrv_r | exact jrv_n | exact jrv_f) rfl ?_
          refine j_aload_n (i := 3) (t := 109) C d_C_learn_108 rfl rfl (by first | exact jrv_r | exact jrv_n | exact jrv_f) rfl ?_
          refine j_putW (t := 112) C fp_C_34 d_C_learn_109 (by assumption) (by first | rfl | exact jnar_rf) (by first | rfl | exact jfit_rf) (by first | exact Nat.le_of_ble_eq_true rfl | (simp only [List.length_set]; omega)) rfl (fun w109 e109 h109 f109 => ?_)
          refine j_aload_n (i := 0) (t := 113) C d_C_learn_112 rfl rfl (by first | exact jrv_r | exact jrv_n | exact jrv_f) rfl ?_
          refine j_aload (t := 115) C d_C_learn_113 rfl (by first | exact jrv_r | exact jrv_n | exact jrv_f) rfl ?_
          refine j_putW (t := 118) C fp_C_38 d_C_learn_115 (by assumption) (by first | rfl | exact jnar_rf) (by first | rfl | exact jfit_rf) (by first | exact Nat.le_of_ble_eq_true rfl | (simp only [List.length_set]; omega)) rfl (fun w115 e115 h115 f115 => ?_)
          refine j_aload_n (i := 0) (t := 119) C d_C_learn_118 rfl rfl (by first | exact jrv_r | exact jrv_n | exact jrv_f) rfl ?_
          refine j_iconst (x := 0) (t := 120) C d_C_learn_119 rfl rfl ?_
          refine j_putW (t := 123) C fp_C_44 d_C_learn_120 (by assumption) (by first | rfl | exact jnar_rf) (by first | rfl | exact jfit_rf) (by first | exact Nat.le_of_ble_eq_true rfl | (simp only [List.length_set]; omega)) rfl (fun w120 e120 h120 f120 => ?_)
          refine j_iconst (x := 1) (t := 124) C d_C_learn_123 rfl rfl ?_
          exact j_iret C d_C_learn_124 rfl (⟨lw, hg, hlw, hhg, Or.inr ⟨by first | (intro z; rw [z.1] at h82; simp at h82; done) | exact fun z => absurd z.2 (by simpa using h87), rfl, h120, (((((KA.rf.put f94 (by simp)).put f99 (by simp)).put f104 (by simp)).put f109 (by simp)).put f115 (by simp)).put f120 (by simp)⟩⟩) (by omega) (by omega)
        · refine j_iload_n (i := 2) (t := 86) C d_C_learn_85 rfl rfl rfl ?_
          refine j_iload_n (i := 1) (t := 87) C d_C_learn_86 rfl rfl rfl ?_
          refine j_icmp_ge (tgt := 92) (t := 90) C d_C_learn_87 (by decide) rfl (fun h87 => ?_) (fun h87 => ?_)
          · refine j_aload_n (i := 0) (t := 93) C d_C_learn_92 rfl rfl (by first | exact jrv_r | exact jrv_n | exact jrv_f) rfl ?_
            refine j_iconst (x := 1) (t := 94) C d_C_learn_93 rfl rfl ?_
            refine j_putW (t := 97) C fp_C_24 d_C_learn_94 (by assumption) (by first | rfl | exact jnar_rf) (by first | rfl | exact jfit_rf) (by first | exact Nat.le_of_ble_eq_true rfl | (simp only [List.length_set]; omega)) rfl (fun w94 e94 h94 f94 => ?_)
            refine j_aload_n (i := 0) (t := 98) C d_C_learn_97 rfl rfl (by first | exact jrv_r | exact jrv_n | exact jrv_f) rfl ?_
            refine j_iload_n (i := 1) (t := 99) C d_C_learn_98 rfl rfl rfl ?_
            refine j_putW (t := 102) C fp_C_28 d_C_learn_99 (by assumption) (by first | rfl | exact jnar_rf) (by first | rfl | exact jfit_rf) (by first | exact Nat.le_of_ble_eq_true rfl | (simp only [List.length_set]; omega)) rfl (fun w99 e99 h99 f99 => ?_)
            refine j_aload_n (i := 0) (t := 103) C d_C_learn_102 rfl rfl (by first | exact jrv_r | exact jrv_n | exact jrv_f) rfl ?_
            refine j_iload_n (i := 2) (t := 104) C d_C_learn_103 rfl rfl rfl ?_
            refine j_putW (t := 107) C fp_C_31 d_C_learn_104 (by assumption) (by first | rfl | exact jnar_rf) (by first | rfl | exact jfit_rf) (by first | exact Nat.le_of_ble_eq_true rfl | (simp only [List.length_set]; omega)) rfl (fun w104 e104 h104 f104 => ?_)
            refine j_aload_n (i := 0) (t := 108) C d_C_learn_107 rfl rfl (by first | exact jrv_r | exact jrv_n | exact jrv_f) rfl ?_
            refine j_aload_n (i := 3) (t := 109) C d_C_learn_108 rfl rfl (by first | exact jrv_r | exact jrv_n | exact jrv_f) rfl ?_
            refine j_putW (t := 112) C fp_C_34 d_C_learn_109 (by assumption) (by first | rfl | exact jnar_rf) (by first | rfl | exact jfit_rf) (by first | exact Nat.le_of_ble_eq_true rfl | (simp only [List.length_set]; omega)) rfl (fun w109 e109 h109 f109 => ?_)
            refine j_aload_n (i := 0) (t := 113) C d_C_learn_112 rfl rfl (by first | exact jrv_r | exact jrv_n | exact jrv_f) rfl ?_
            refine j_aload (t := 115) C d_C_learn_113 rfl (by first | exact jrv_r | exact jrv_n | exact jrv_f) rfl ?_
            refine j_putW (t := 118) C fp_C_38 d_C_learn_115 (by assumption) (by first | rfl | exact jnar_rf) (by first | rfl | exact jfit_rf) (by first | exact Nat.le_of_ble_eq_true rfl | (simp only [List.length_set]; omega)) rfl (fun w115 e115 h115 f115 => ?_)
            refine j_aload_n (i := 0) (t := 119) C d_C_learn_118 rfl rfl (by first | exact jrv_r | exact jrv_n | exact jrv_f) rfl ?_
            refine j_iconst (x := 0) (t := 120) C d_C_learn_119 rfl rfl ?_
            refine j_putW (t := 123) C fp_C_44 d_C_learn_120 (by assumption) (by first | rfl | exact jnar_rf) (by first | rfl | exact jfit_rf) (by first | exact Nat.le_of_ble_eq_true rfl | (simp only [List.length_set]; omega)) rfl (fun w120 e120 h120 f120 => ?_)
            refine j_iconst (x := 1) (t := 124) C d_C_learn_123 rfl rfl ?_
            exact j_iret C d_C_learn_124 rfl (⟨lw, hg, hlw, hhg, Or.inr ⟨by first | (intro z; rw [z.1] at h82; simp at h82; done) | exact fun z => absurd z.2 (by simpa using h87), rfl, h120, (((((KA.rf.put f94 (by simp)).put f99 (by simp)).put f104 (by simp)).put f109 (by simp)).put f115 (by simp)).put f120 (by simp)⟩⟩) (by omega) (by omega)
          · refine j_iconst (x := 0) (t := 91) C d_C_learn_90 rfl rfl ?_
            exact j_iret C d_C_learn_91 rfl (⟨lw, hg, hlw, hhg, Or.inl ⟨h82, by simpa using h87, rfl, rfl⟩⟩) (by omega) (by omega)
      · rw [nI_leI (by omega) (by omega)] at h14
        have hin : vp_in (nI i) 1000 := vp_in_nI (by omega) (by omega)
        have hfi := hf i (by omega)
        refine j_aload_n (i := 0) (t := 18) C d_C_learn_17 rfl rfl (by first | exact jrv_r | exact jrv_n | exact jrv_f) rfl ?_
        refine j_get (t := 21) C fl_C_11 d_C_learn_18 (by assumption) (by first | rfl | assumption) rfl ?_
        refine j_iload (t := 23) C d_C_learn_21 rfl rfl ?_
        refine j_aaload (t := 24) C d_C_learn_23 (by assumption) (by rfl) (by assumption) rfl ?_
        rw [nI_clamp (by omega)]
        refine j_astore (i := 6) (t := 26) (lv' := [(0, _), (1, _), (2, _), (3, _), (4, _), (5, _), (6, _)]) C d_C_learn_24 (by first | exact jrv_r | exact jrv_n | exact jrv_f) (by decide) (by decide) rfl rfl ?_
        refine j_aload (t := 28) C d_C_learn_26 rfl (by first | exact jrv_r | exact jrv_n | exact jrv_f) rfl ?_
        refine j_ifnull (tgt := 75) (t := 31) C d_C_learn_28 (by decide) rfl (fun h28 => ?_) (fun a28 h28 => ?_)
        · rw [h28] at hfi
          have hri := isO_none hfi
          refine j_iinc (y := _ + 1) (t := 78) (lv' := [(0, _), (1, _), (2, _), (3, _), (4, _), (5, _), (6, _)]) C d_C_learn_75 rfl rfl (by decide) (by decide) rfl rfl ?_
          refine j_goto (tgt := 8) C d_C_learn_78 (by decide) ?_
          refine j_pick [0, 1, 2, 3, 4, 5] rfl ?_
          rw [nI_1]
          exact ih (i + 1) lw hg (by omega) (by omega) (by rw [mnR_n hri]; exact hlw) (by rw [mxR_n hri]; exact hhg)
        · rw [h28] at hfi
          obtain ⟨x, hrx, hx⟩ := isO_some hfi
          obtain ⟨tx, hxo, -⟩ := id hx
          refine j_lv (lv' := [(0, .ref a), (1, .int al1), (2, .int ms1), (3, va_rf lw), (4, va_rf hg), (5, .int (nI i)), (6, .ref a28)]) (by rw [h28]; rfl) rfl ?_
          refine j_aload_n (i := 3) (t := 32) C d_C_learn_31 rfl rfl (by first | exact jrv_r | exact jrv_n | exact jrv_f) rfl ?_
          refine j_ifnull (tgt := 44) (t := 35) C d_C_learn_32 (by decide) rfl (fun h32 => ?_) (fun a32 h32 => ?_)
          · refine j_aload (t := 46) C d_C_learn_44 rfl (by first | exact jrv_r | exact jrv_n | exact jrv_f) rfl ?_
            refine j_goto (tgt := 50) C d_C_learn_46 (by decide) ?_
            refine j_astore_n (i := 3) (t := 51) (lv' := [(0, _), (1, _), (2, _), (3, _), (4, _), (5, _), (6, _)]) C d_C_learn_50 rfl (by first | exact jrv_r | exact jrv_n | exact jrv_f) (by decide) (by decide) rfl rfl ?_
            first | exact second (some a28) a28 x (by omega) h28 hrx hx ⟨x, mnR_b hrx hy1 (s38.1.mp (by simpa using h41)), hx⟩ | exact second (some a32) a28 x (by omega) h28 hrx hx ⟨y, mnR_c hrx hy1 (fun z => absurd (s38.1.mpr z) (by simpa using h41)), hy⟩ | exact second (some a28) a28 x (by omega) h28 hrx hx ⟨x, mnR_a hrx (isO_none (by rw [h32] at hlw; exact hlw)), hx⟩
          · have hlw1 := hlw
            rw [h32] at hlw1
            obtain ⟨y, hy1, hy⟩ := isO_some hlw1
            refine j_aload (t := 37) C d_C_learn_35 rfl (by first | exact jrv_r | exact jrv_n | exact jrv_f) rfl ?_
            refine j_aload_n (i := 3) (t := 38) C d_C_learn_37 rfl rfl (by first | exact jrv_r | exact jrv_n | exact jrv_f) rfl ?_
            rw [h32]
            refine j_callV (As := [_]) (t := 41) C (c_V_order _ a28 a32 x y) d_C_learn_38 jb_V_order ml_C_57 jv_V_order (by assumption) rfl rfl rfl (Nat.le_of_ble_eq_true rfl) (by decide) (by omega) (by omega) (⟨rfl, hx, hy⟩) rfl (fun r38 w38 p38 => ?_)
            obtain ⟨rfl, i38, rfl, s38⟩ := p38
            dsimp only [jst]
            refine j_if_ge (tgt := 49) (t := 44) C d_C_learn_41 (by decide) rfl (fun h41 => ?_) (fun h41 => ?_)
            · refine j_aload_n (i := 3) (t := 50) C d_C_learn_49 rfl rfl (by first | exact jrv_r | exact jrv_n | exact jrv_f) rfl ?_
              refine j_astore_n (i := 3) (t := 51) (lv' := [(0, _), (1, _), (2, _), (3, _), (4, _), (5, _), (6, _)]) C d_C_learn_50 rfl (by first | exact jrv_r | exact jrv_n | exact jrv_f) (by decide) (by decide) rfl rfl ?_
              first | exact second (some a28) a28 x (by omega) h28 hrx hx ⟨x, mnR_b hrx hy1 (s38.1.mp (by simpa using h41)), hx⟩ | exact second (some a32) a28 x (by omega) h28 hrx hx ⟨y, mnR_c hrx hy1 (fun z => absurd (s38.1.mpr z) (by simpa using h41)), hy⟩ | exact second (some a28) a28 x (by omega) h28 hrx hx ⟨x, mnR_a hrx (isO_none (by rw [h32] at hlw; exact hlw)), hx⟩
            · refine j_aload (t := 46) C d_C_learn_44 rfl (by first | exact jrv_r | exact jrv_n | exact jrv_f) rfl ?_
              refine j_goto (tgt := 50) C d_C_learn_46 (by decide) ?_
              refine j_astore_n (i := 3) (t := 51) (lv' := [(0, _), (1, _), (2, _), (3, _), (4, _), (5, _), (6, _)]) C d_C_learn_50 rfl (by first | exact jrv_r | exact jrv_n | exact jrv_f) (by decide) (by decide) rfl rfl ?_
              first | exact second (some a28) a28 x (by omega) h28 hrx hx ⟨x, mnR_b hrx hy1 (s38.1.mp (by simpa using h41)), hx⟩ | exact second (some a32) a28 x (by omega) h28 hrx hx ⟨y, mnR_c hrx hy1 (fun z => absurd (s38.1.mpr z) (by simpa using h41)), hy⟩ | exact second (some a28) a28 x (by omega) h28 hrx hx ⟨x, mnR_a hrx (isO_none (by rw [h32] at hlw; exact hlw)), hx⟩
  refine j_null (t := 1) C d_C_learn_0 rfl ?_
  refine j_astore_n (i := 3) (t := 2) (lv' := [(0, _), (1, _), (2, _), (3, _)]) C d_C_learn_1 rfl (by first | exact jrv_r | exact jrv_n | exact jrv_f) (by decide) (by decide) rfl rfl ?_
  refine j_null (t := 3) C d_C_learn_2 rfl ?_
  refine j_astore (i := 4) (t := 5) (lv' := [(0, _), (1, _), (2, _), (3, _), (4, _)]) C d_C_learn_3 (by first | exact jrv_r | exact jrv_n | exact jrv_f) (by decide) (by decide) rfl rfl ?_
  refine j_iconst (x := 0) (t := 6) C d_C_learn_5 rfl rfl ?_
  refine j_istore (i := 5) (t := 8) (lv' := [(0, _), (1, _), (2, _), (3, _), (4, _), (5, _)]) C d_C_learn_6 (by decide) (by decide) rfl rfl ?_
  refine j_lv (lv' := [(0, .ref a), (1, .int al1), (2, .int ms1), (3, va_rf none), (4, va_rf none), (5, .int (nI 0))]) rfl rfl ?_
  exact loop (rc + 1) 0 none none (by omega) (Nat.zero_le _) rfl rfl
