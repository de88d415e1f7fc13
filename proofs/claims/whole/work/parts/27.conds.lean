set_option maxHeartbeats 4000000 in
set_option maxRecDepth 100000 in
/-- areLiterals -/
theorem c_T_areLiterals (l : Launch) (a : Nat) (ac : Nat) (cc1 : Int32) (at1 : Nat) (tnI : Int32) (al : Nat) (as1 : Nat) (snI : Int32) (aw ar : Nat) (znI : Int32) (au : Nat) (unI : Int32) (ln : Nat) (f : Nat → Option Nat) (lit : Nat → jv) (ty p m : Int32) : MC l y_T_areLiterals b_T_areLiterals 5 (some .boolean) 0 0 0
    (fun G w av => av = [.ref a, .int ty, .int p, .int m] ∧ jh w a (eO cT (tFs ac cc1 at1 tnI al (nI ln) as1 snI aw ar znI au unI)) ∧ jh w al (eR G 5 64 f) ∧ ln ≤ 64 ∧ (∀ j, j < ln → ∃ b, f j = some b ∧ isV G w b (lit j)))
    (fun G w av r w' => w' = w ∧ r = some (.int (bI (aLt ty p m ln lit)))) := by
  refine MC.of 99 (by decide) ?_
  intro X w av hl C hnm hp
  obtain ⟨rfl, ha, hal, hln, hlt⟩ := hp
  refine ⟨[(0, _), (1, _), (2, _), (3, _)], rfl, Nat.le_of_ble_eq_true rfl, rfl, ?_⟩
  refine j_iload_n (i := 2) (t := 1) C d_T_areLiterals_0 rfl rfl rfl ?_
  refine j_if_lt (tgt := 27) (t := 4) C d_T_areLiterals_1 (by decide) rfl (fun h1 => ?_) (fun h1 => ?_)
  · refine j_iconst (x := 0) (t := 28) C d_T_areLiterals_27 rfl rfl ?_
    exact j_iret C d_T_areLiterals_28 rfl (⟨rfl, by first | (rw [aLt_f1 h1]; rfl) | (rw [aLt_f2 hln h9]; rfl) | (rw [aLt_f3 h14]; rfl) | (rw [aLt_f4 hln h1 h9 h14 h24]; rfl)⟩) (by omega) (by omega)
  · refine j_iload_n (i := 2) (t := 5) C d_T_areLiterals_4 rfl rfl rfl ?_
    refine j_aload_n (i := 0) (t := 6) C d_T_areLiterals_5 rfl rfl (by first | exact jrv_r | exact jrv_n | exact jrv_f) rfl ?_
    refine j_get (t := 9) C fl_T_32 d_T_areLiterals_6 (by assumption) (by first | rfl | assumption) rfl ?_
    refine j_icmp_ge (tgt := 27) (t := 12) C d_T_areLiterals_9 (by decide) rfl (fun h9 => ?_) (fun h9 => ?_)
    · refine j_iconst (x := 0) (t := 28) C d_T_areLiterals_27 rfl rfl ?_
      exact j_iret C d_T_areLiterals_28 rfl (⟨rfl, by first | (rw [aLt_f1 h1]; rfl) | (rw [aLt_f2 hln h9]; rfl) | (rw [aLt_f3 h14]; rfl) | (rw [aLt_f4 hln h1 h9 h14 h24]; rfl)⟩) (by omega) (by omega)
    · refine j_iload_n (i := 3) (t := 13) C d_T_areLiterals_12 rfl rfl rfl ?_
      refine j_iconst (x := 1) (t := 14) C d_T_areLiterals_13 rfl rfl ?_
      refine j_icmp_lt (tgt := 27) (t := 17) C d_T_areLiterals_14 (by decide) rfl (fun h14 => ?_) (fun h14 => ?_)
      · refine j_iconst (x := 0) (t := 28) C d_T_areLiterals_27 rfl rfl ?_
        exact j_iret C d_T_areLiterals_28 rfl (⟨rfl, by first | (rw [aLt_f1 h1]; rfl) | (rw [aLt_f2 hln h9]; rfl) | (rw [aLt_f3 h14]; rfl) | (rw [aLt_f4 hln h1 h9 h14 h24]; rfl)⟩) (by omega) (by omega)
      · refine j_iload_n (i := 3) (t := 18) C d_T_areLiterals_17 rfl rfl rfl ?_
        refine j_aload_n (i := 0) (t := 19) C d_T_areLiterals_18 rfl rfl (by first | exact jrv_r | exact jrv_n | exact jrv_f) rfl ?_
        refine j_get (t := 22) C fl_T_32 d_T_areLiterals_19 (by assumption) (by first | rfl | assumption) rfl ?_
        refine j_iload_n (i := 2) (t := 23) C d_T_areLiterals_22 rfl rfl rfl ?_
        refine j_isub (t := 24) C d_T_areLiterals_23 rfl ?_
        refine j_icmp_le (tgt := 29) (t := 27) C d_T_areLiterals_24 (by decide) rfl (fun h24 => ?_) (fun h24 => ?_)
        · obtain ⟨P, M1, rfl, rfl, hPM, hM1, hAE⟩ := aLt_t (ty := ty) (lit := lit) hln h1 h9 h14 h24
          have loop : ∀ (q i : Nat), M1 + 1 ≤ i + q → i ≤ M1 → tyAll ty lit P i = true → J X (5, 99) (jQ X (fun r w' => w' = w ∧ r = some (.int (bI (aLt ty (nI P) (nI M1) ln lit)))) 0 0) w 0 0 32 [(0, .ref a), (1, .int ty), (2, .int (nI P)), (3, .int (nI M1)), (4, .int (nI i))] [] := by
            intro q
            induction q with
            | zero => intro i h1 h2; omega
            | succ q ih =>
              intro i hi1 hi2 hT
              refine j_iload (t := 34) C d_T_areLiterals_32 rfl rfl ?_
              refine j_iload_n (i := 3) (t := 35) C d_T_areLiterals_34 rfl rfl rfl ?_
              refine j_icmp_ge (tgt := 62) (t := 38) C d_T_areLiterals_35 (by decide) rfl (fun h35 => ?_) (fun h35 => ?_)
              · have hie : i = M1 := by rw [nI_leI (by omega) (by omega)] at h35; omega
                subst hie
                refine j_iconst (x := 1) (t := 63) C d_T_areLiterals_62 rfl rfl ?_
                exact j_iret C d_T_areLiterals_63 rfl (⟨rfl, by rw [hAE, hT]; rfl⟩) (by omega) (by omega)
              · rw [nI_leI (by omega) (by omega)] at h35
                obtain ⟨b, hfb, hb⟩ := hlt (P + i) (by omega)
                obtain ⟨tb2, hbo, -⟩ := id hb
                have hin : vp_in (nI (P + i)) 64 := vp_in_nI (by omega) (by omega)
                refine j_aload_n (i := 0) (t := 39) C d_T_areLiterals_38 rfl rfl (by first | exact jrv_r | exact jrv_n | exact jrv_f) rfl ?_
                refine j_get (t := 42) C fl_T_28 d_T_areLiterals_39 (by assumption) (by first | rfl | assumption) rfl ?_
                refine j_iload_n (i := 2) (t := 43) C d_T_areLiterals_42 rfl rfl rfl ?_
                refine j_iload (t := 45) C d_T_areLiterals_43 rfl rfl ?_
                refine j_iadd (t := 46) C d_T_areLiterals_45 rfl ?_
                rw [nI_add]
                refine j_aaload (t := 47) C d_T_areLiterals_46 (by assumption) (by rfl) (by assumption) rfl ?_
                rw [nI_clamp (by omega), hfb]
                refine j_lv (st' := [.ref b]) rfl rfl ?_
                refine j_get (t := 50) C fl_T_147 d_T_areLiterals_47 (by assumption) (by first | rfl | assumption) rfl ?_
                refine j_iload_n (i := 1) (t := 51) C d_T_areLiterals_50 rfl rfl rfl ?_
                refine j_icmp_eq (tgt := 56) (t := 54) C d_T_areLiterals_51 (by decide) rfl (fun h51 => ?_) (fun h51 => ?_)
                · refine j_iinc (y := _ + 1) (t := 59) (lv' := [(0, _), (1, _), (2, _), (3, _), (4, _)]) C d_T_areLiterals_56 rfl rfl (by decide) (by decide) rfl rfl ?_
                  refine j_goto (tgt := 32) C d_T_areLiterals_59 (by decide) ?_
                  rw [nI_1]
                  exact ih (i + 1) (by omega) (by omega) (tyAll_n hT h51)
                · refine j_iconst (x := 0) (t := 55) C d_T_areLiterals_54 rfl rfl ?_
                  exact j_iret C d_T_areLiterals_55 rfl (⟨rfl, by rw [hAE, tyAll_f (i := i) h51 (by omega)]; rfl⟩) (by omega) (by omega)
          refine j_iconst (x := 0) (t := 30) C d_T_areLiterals_29 rfl rfl ?_
          refine j_istore (i := 4) (t := 32) (lv' := [(0, _), (1, _), (2, _), (3, _), (4, _)]) C d_T_areLiterals_30 (by decide) (by decide) rfl rfl ?_
          exact loop (M1 + 1) 0 (by omega) (Nat.zero_le _) rfl
        · refine j_iconst (x := 0) (t := 28) C d_T_areLiterals_27 rfl rfl ?_
          exact j_iret C d_T_areLiterals_28 rfl (⟨rfl, by first | (rw [aLt_f1 h1]; rfl) | (rw [aLt_f2 hln h9]; rfl) | (rw [aLt_f3 h14]; rfl) | (rw [aLt_f4 hln h1 h9 h14 h24]; rfl)⟩) (by omega) (by omega)

set_option maxHeartbeats 4000000 in
set_option maxRecDepth 100000 in
/-- fits -/
theorem c_T_fits (l : Launch) (a : Nat) (ac : Nat) (cc1 : Int32) (at1 : Nat) (tnI : Int32) (al : Nat) (as1 : Nat) (snI : Int32) (aw ar : Nat) (znI : Int32) (au : Nat) (unI : Int32) (ln : Nat) (f : Nat → Option Nat) (lit : Nat → jv) (kd : Int32) (c1 : Option Nat) (op : Int32) (c2 : Option Nat) (p m t1 t2 : Int32) : MC l y_T_fits b_T_fits 7 (some .boolean) 1 0 0
    (fun G w av => av = [.ref a, .int kd, va_rf c1, .int op, va_rf c2, .int p, .int m] ∧ jh w a (eO cT (tFs ac cc1 at1 tnI al (nI ln) as1 snI aw ar znI au unI)) ∧ (jh w al (eR G 5 64 f) ∧ ln ≤ 64 ∧ (∀ j, j < ln → ∃ b, f j = some b ∧ isV G w b (lit j))) ∧ (∀ c, c1 = some c → ∃ fs, jh w c (eO cC fs) ∧ fs[0]? = some (.int t1)) ∧ (∀ c, c2 = some c → ∃ fs, jh w c (eO cC fs) ∧ fs[0]? = some (.int t2)))
    (fun G w av r w' => w' = w ∧ r = some (.int (bI (fitS kd c1.isSome t1 op c2.isSome t2 p m ln lit)))) := by
  refine MC.of 99 (by decide) ?_
  intro X w av hl C hnm hp
  obtain ⟨rfl, ha, hL, hc1, hc2⟩ := hp
  refine ⟨[(0, .ref a), (1, .int kd), (2, va_rf c1), (3, .int op), (4, va_rf c2), (5, .int p), (6, .int m)], by cases c1 <;> cases c2 <;> rfl, by cases c1 <;> cases c2 <;> exact Nat.le_of_ble_eq_true rfl, by cases c1 <;> cases c2 <;> rfl, ?_⟩
  refine j_aload_n (i := 2) (t := 1) C d_T_fits_0 rfl rfl (by first | exact jrv_r | exact jrv_n | exact jrv_f) rfl ?_
  refine j_ifnonnull (tgt := 6) (t := 4) C d_T_fits_1 (by decide) rfl (fun a1 h1 => ?_) (fun h1 => ?_)
  · obtain ⟨fs1, hf1, ht1⟩ := hc1 _ h1
    refine j_lv (lv' := [(0, .ref a), (1, .int kd), (2, .ref a1), (3, .int op), (4, va_rf c2), (5, .int p), (6, .int m)]) (by rw [h1]; rfl) rfl ?_
    have hs1 : c1.isSome = true := by rw [h1]; rfl
    rw [hs1]
    refine j_iload_n (i := 1) (t := 7) C d_T_fits_6 rfl rfl rfl ?_
    by_cases c7_2 : kd = 2
    · refine j_tableIn (tgt := 32) C d_T_fits_7 (by rw [c7_2]; decide) (by rw [c7_2]; decide) (by rw [c7_2]; rfl) (by decide) ?_
      refine j_aload_n (i := 0) (t := 33) C d_T_fits_32 rfl rfl (by first | exact jrv_r | exact jrv_n | exact jrv_f) rfl ?_
      refine j_aload_n (i := 2) (t := 34) C d_T_fits_33 rfl rfl (by first | exact jrv_r | exact jrv_n | exact jrv_f) rfl ?_
      refine j_get (t := 37) C fl_T_70 d_T_fits_34 (by assumption) (by first | rfl | assumption) rfl ?_
      refine j_iload (t := 39) C d_T_fits_37 rfl rfl ?_
      refine j_iload (t := 41) C d_T_fits_39 rfl rfl ?_
      refine j_callV (As := [_, _, _]) (t := 44) C (c_T_areLiterals _ a _ _ _ _ _ _ _ _ _ _ _ _ ln f lit t1 p m) d_T_fits_41 jb_T_areLiterals ml_T_140 jv_T_areLiterals (by assumption) rfl rfl rfl (Nat.le_of_ble_eq_true rfl) (by decide) (by omega) (by omega) (⟨rfl, ha, hL⟩) rfl (fun r41 w41 p41 => ?_)
      obtain ⟨rfl, rfl⟩ := p41
      dsimp only [jst]
      exact j_iret C d_T_fits_44 (by cases aLt t1 p m ln lit <;> rfl) (⟨rfl, by simp [fitS, c7_2]⟩) (by omega) (by omega)
    by_cases c7_3 : kd = 3
    · refine j_tableIn (tgt := 45) C d_T_fits_7 (by rw [c7_3]; decide) (by rw [c7_3]; decide) (by rw [c7_3]; rfl) (by decide) ?_
      refine j_iload_n (i := 3) (t := 46) C d_T_fits_45 rfl rfl rfl ?_
      refine j_callS (As := [_]) (t := 49) C (c_T_isOperator _ op) d_T_fits_46 jb_T_isOperator ml_T_144 st_T_isOperator rfl (Nat.le_of_ble_eq_true rfl) (by decide) (by omega) (by omega) (rfl) rfl (fun r46 w46 p46 => ?_)
      obtain ⟨rfl, rfl⟩ := p46
      dsimp only [jst]
      rw [show (decide (0 ≤ op) && decide (op ≤ 5)) = opK op from rfl]
      refine j_if_eq (tgt := 71) (t := 52) C d_T_fits_49 (by decide) rfl (fun h49 => ?_) (fun h49 => ?_)
      · refine j_iconst (x := 0) (t := 72) C d_T_fits_71 rfl rfl ?_
        exact j_iret C d_T_fits_72 rfl (⟨rfl, by simp only [bI_0, Bool.not_eq_false] at *; simp_all [fitS, bI]⟩) (by omega) (by omega)
      · refine j_aload_n (i := 0) (t := 53) C d_T_fits_52 rfl rfl (by first | exact jrv_r | exact jrv_n | exact jrv_f) rfl ?_
        refine j_aload_n (i := 2) (t := 54) C d_T_fits_53 rfl rfl (by first | exact jrv_r | exact jrv_n | exact jrv_f) rfl ?_
        refine j_get (t := 57) C fl_T_70 d_T_fits_54 (by assumption) (by first | rfl | assumption) rfl ?_
        refine j_iload (t := 59) C d_T_fits_57 rfl rfl ?_
        refine j_iload (t := 61) C d_T_fits_59 rfl rfl ?_
        refine j_callV (As := [_, _, _]) (t := 64) C (c_T_areLiterals _ a _ _ _ _ _ _ _ _ _ _ _ _ ln f lit t1 p m) d_T_fits_61 jb_T_areLiterals ml_T_140 jv_T_areLiterals (by assumption) rfl rfl rfl (Nat.le_of_ble_eq_true rfl) (by decide) (by omega) (by omega) (⟨rfl, ha, hL⟩) rfl (fun r61 w61 p61 => ?_)
        obtain ⟨rfl, rfl⟩ := p61
        dsimp only [jst]
        refine j_if_eq (tgt := 71) (t := 67) C d_T_fits_64 (by decide) rfl (fun h64 => ?_) (fun h64 => ?_)
        · refine j_iconst (x := 0) (t := 72) C d_T_fits_71 rfl rfl ?_
          exact j_iret C d_T_fits_72 rfl (⟨rfl, by simp only [bI_0, Bool.not_eq_false] at *; simp_all [fitS, bI]⟩) (by omega) (by omega)
        · refine j_iconst (x := 1) (t := 68) C d_T_fits_67 rfl rfl ?_
          refine j_goto (tgt := 72) C d_T_fits_68 (by decide) ?_
          exact j_iret C d_T_fits_72 rfl (⟨rfl, by simp only [bI_0, Bool.not_eq_false] at *; simp_all [fitS, bI]⟩) (by omega) (by omega)
    by_cases c7_4 : kd = 4
    · refine j_tableIn (tgt := 73) C d_T_fits_7 (by rw [c7_4]; decide) (by rw [c7_4]; decide) (by rw [c7_4]; rfl) (by decide) ?_
      refine j_iload_n (i := 3) (t := 74) C d_T_fits_73 rfl rfl rfl ?_
      refine j_callS (As := [_]) (t := 77) C (c_T_isOperator _ op) d_T_fits_74 jb_T_isOperator ml_T_144 st_T_isOperator rfl (Nat.le_of_ble_eq_true rfl) (by decide) (by omega) (by omega) (rfl) rfl (fun r74 w74 p74 => ?_)
      obtain ⟨rfl, rfl⟩ := p74
      dsimp only [jst]
      rw [show (decide (0 ≤ op) && decide (op ≤ 5)) = opK op from rfl]
      refine j_if_eq (tgt := 101) (t := 80) C d_T_fits_77 (by decide) rfl (fun h77 => ?_) (fun h77 => ?_)
      · refine j_iconst (x := 0) (t := 102) C d_T_fits_101 rfl rfl ?_
        exact j_iret C d_T_fits_102 rfl (⟨rfl, by simp only [bI_0, Bool.not_eq_false] at *; simp_all [fitS, bI]⟩) (by omega) (by omega)
      · refine j_aload (t := 82) C d_T_fits_80 rfl (by first | exact jrv_r | exact jrv_n | exact jrv_f) rfl ?_
        refine j_ifnull (tgt := 101) (t := 85) C d_T_fits_82 (by decide) rfl (fun h82 => ?_) (fun a82 h82 => ?_)
        · refine j_iconst (x := 0) (t := 102) C d_T_fits_101 rfl rfl ?_
          exact j_iret C d_T_fits_102 rfl (⟨rfl, by simp only [bI_0, Bool.not_eq_false] at *; simp_all [fitS, bI]⟩) (by omega) (by omega)
        · obtain ⟨fs2, hf2, ht2⟩ := hc2 _ h82
          refine j_lv (lv' := [(0, .ref a), (1, .int kd), (2, .ref a1), (3, .int op), (4, .ref a82), (5, .int p), (6, .int m)]) (by rw [h82]; rfl) rfl ?_
          refine j_aload (t := 87) C d_T_fits_85 rfl (by first | exact jrv_r | exact jrv_n | exact jrv_f) rfl ?_
          refine j_get (t := 90) C fl_T_70 d_T_fits_87 (by assumption) (by first | rfl | assumption) rfl ?_
          refine j_aload_n (i := 2) (t := 91) C d_T_fits_90 rfl rfl (by first | exact jrv_r | exact jrv_n | exact jrv_f) rfl ?_
          refine j_get (t := 94) C fl_T_70 d_T_fits_91 (by assumption) (by first | rfl | assumption) rfl ?_
          refine j_icmp_ne (tgt := 101) (t := 97) C d_T_fits_94 (by decide) rfl (fun h94 => ?_) (fun h94 => ?_)
          · refine j_iconst (x := 0) (t := 102) C d_T_fits_101 rfl rfl ?_
            exact j_iret C d_T_fits_102 rfl (⟨rfl, by simp only [bI_0, Bool.not_eq_false] at *; simp_all [fitS, bI]⟩) (by omega) (by omega)
          · refine j_iconst (x := 1) (t := 98) C d_T_fits_97 rfl rfl ?_
            refine j_goto (tgt := 102) C d_T_fits_98 (by decide) ?_
            exact j_iret C d_T_fits_102 rfl (⟨rfl, by simp only [bI_0, Bool.not_eq_false] at *; simp_all [fitS, bI]⟩) (by omega) (by omega)
    refine j_tableOut (tgt := 103) C d_T_fits_7 (by have q2 := lv_neT c7_2 (a := 2) (by decide); have q3 := lv_neT c7_3 (a := 3) (by decide); have q4 := lv_neT c7_4 (a := 4) (by decide); omega) (by decide) ?_
    refine j_iconst (x := 1) (t := 104) C d_T_fits_103 rfl rfl ?_
    exact j_iret C d_T_fits_104 rfl (⟨rfl, by simp [fitS, c7_2, c7_3, c7_4, bI]⟩) (by omega) (by omega)
  · refine j_iconst (x := 0) (t := 5) C d_T_fits_4 rfl rfl ?_
    exact j_iret C d_T_fits_5 rfl (⟨rfl, by rw [h1]; rfl⟩) (by omega) (by omega)

set_option maxHeartbeats 4000000 in
set_option maxRecDepth 100000 in
/-- isCondition -/
theorem c_T_isCondition (l : Launch) (a : Nat) (ac : Nat) (cc1 : Int32) (at1 : Nat) (tnI : Int32) (al : Nat) (lnI : Int32) (as1 : Nat) (aw ar : Nat) (znI : Int32) (au : Nat) (unI : Int32) (sn : Nat) (f : Nat → Option Nat) (bs : Nat → Nat) (kds : Nat → Int32) : MC l y_T_isCondition b_T_isCondition 4 (some .boolean) 1 0 0
    (fun G w av => av = [.ref a] ∧ jh w a (eO cT (tFs ac cc1 at1 tnI al lnI as1 (nI sn) aw ar znI au unI)) ∧ jh w as1 (eR G 6 64 f) ∧ sn ≤ 64 ∧ (∀ j, j < sn → f j = some (bs j) ∧ ∃ fs, jh w (bs j) (eO cS fs) ∧ fs[0]? = some (.int (kds j))))
    (fun G w av r w' => w' = w ∧ r = some (.int (bI (isCnd kds sn)))) := by
  refine MC.of 99 (by decide) ?_
  intro X w av hl C hnm hp
  obtain ⟨rfl, ha, has, hsn, hst⟩ := hp
  refine ⟨[(0, _)], rfl, Nat.le_of_ble_eq_true rfl, rfl, ?_⟩
  have loop : ∀ (q i c : Nat), sn + 1 ≤ i + q → i ≤ sn → wN kds i = some c → J X (4, 99) (jQ X (fun r w' => w' = w ∧ r = some (.int (bI (isCnd kds sn)))) 0 0) w 0 0 4 [(0, .ref a), (1, .int (nI c)), (2, .int (nI i))] [] := by
    intro q
    induction q with
    | zero => intro i c h1 h2; omega
    | succ q ih =>
      intro i c hi1 hi2 hw
      have hci := wN_le hw
      refine j_iload_n (i := 2) (t := 5) C d_T_isCondition_4 rfl rfl rfl ?_
      refine j_aload_n (i := 0) (t := 6) C d_T_isCondition_5 rfl rfl (by first | exact jrv_r | exact jrv_n | exact jrv_f) rfl ?_
      refine j_get (t := 9) C fl_T_41 d_T_isCondition_6 (by assumption) (by first | rfl | assumption) rfl ?_
      refine j_icmp_ge (tgt := 41) (t := 12) C d_T_isCondition_9 (by decide) rfl (fun h9 => ?_) (fun h9 => ?_)
      · have hie : i = sn := by rw [nI_leI (by omega) (by omega)] at h9; omega
        subst hie
        refine j_aload_n (i := 0) (t := 42) C d_T_isCondition_41 rfl rfl (by first | exact jrv_r | exact jrv_n | exact jrv_f) rfl ?_
        refine j_get (t := 45) C fl_T_41 d_T_isCondition_42 (by assumption) (by first | rfl | assumption) rfl ?_
        refine j_if_eq (tgt := 53) (t := 48) C d_T_isCondition_45 (by decide) rfl (fun h45 => ?_) (fun h45 => ?_)
        · refine j_iconst (x := 1) (t := 54) C d_T_isCondition_53 rfl rfl ?_
          refine j_goto (tgt := 58) C d_T_isCondition_54 (by decide) ?_
          exact j_iret C d_T_isCondition_58 rfl (⟨rfl, by first | (have hz : i = 0 := (nI_eq (by omega) (by omega)).mp (by rw [h45]; rfl); simp [isCnd, hz, bI]) | (have hz : ¬ i = 0 := fun z => h45 (by rw [z]; rfl); have hc1 : c = 1 := (nI_eq (by omega) (by omega)).mp (by rw [h50]; rfl); subst hc1; simp [isCnd, hw, bI]) | (have hz : ¬ i = 0 := fun z => h45 (by rw [z]; rfl); have hc1 : ¬ c = 1 := fun z => h50 (by rw [z]; rfl); simp [isCnd, hw, bI, hz, hc1])⟩) (by omega) (by omega)
        · refine j_iload_n (i := 1) (t := 49) C d_T_isCondition_48 rfl rfl rfl ?_
          refine j_iconst (x := 1) (t := 50) C d_T_isCondition_49 rfl rfl ?_
          refine j_icmp_ne (tgt := 57) (t := 53) C d_T_isCondition_50 (by decide) rfl (fun h50 => ?_) (fun h50 => ?_)
          · refine j_iconst (x := 0) (t := 58) C d_T_isCondition_57 rfl rfl ?_
            exact j_iret C d_T_isCondition_58 rfl (⟨rfl, by first | (have hz : i = 0 := (nI_eq (by omega) (by omega)).mp (by rw [h45]; rfl); simp [isCnd, hz, bI]) | (have hz : ¬ i = 0 := fun z => h45 (by rw [z]; rfl); have hc1 : c = 1 := (nI_eq (by omega) (by omega)).mp (by rw [h50]; rfl); subst hc1; simp [isCnd, hw, bI]) | (have hz : ¬ i = 0 := fun z => h45 (by rw [z]; rfl); have hc1 : ¬ c = 1 := fun z => h50 (by rw [z]; rfl); simp [isCnd, hw, bI, hz, hc1])⟩) (by omega) (by omega)
          · refine j_iconst (x := 1) (t := 54) C d_T_isCondition_53 rfl rfl ?_
            refine j_goto (tgt := 58) C d_T_isCondition_54 (by decide) ?_
            exact j_iret C d_T_isCondition_58 rfl (⟨rfl, by first | (have hz : i = 0 := (nI_eq (by omega) (by omega)).mp (by rw [h45]; rfl); simp [isCnd, hz, bI]) | (have hz : ¬ i = 0 := fun z => h45 (by rw [z]; rfl); have hc1 : c = 1 := (nI_eq (by omega) (by omega)).mp (by rw [h50]; rfl); subst hc1; simp [isCnd, hw, bI]) | (have hz : ¬ i = 0 := fun z => h45 (by rw [z]; rfl); have hc1 : ¬ c = 1 := fun z => h50 (by rw [z]; rfl); simp [isCnd, hw, bI, hz, hc1])⟩) (by omega) (by omega)
      · rw [nI_leI (by omega) (by omega)] at h9
        obtain ⟨hfb, fs, hfo, hf0⟩ := hst i (by omega)
        have hin : vp_in (nI i) 64 := vp_in_nI (by omega) (by omega)
        refine j_aload_n (i := 0) (t := 13) C d_T_isCondition_12 rfl rfl (by first | exact jrv_r | exact jrv_n | exact jrv_f) rfl ?_
        refine j_get (t := 16) C fl_T_37 d_T_isCondition_13 (by assumption) (by first | rfl | assumption) rfl ?_
        refine j_iload_n (i := 2) (t := 17) C d_T_isCondition_16 rfl rfl rfl ?_
        refine j_aaload (t := 18) C d_T_isCondition_17 (by assumption) (by rfl) (by assumption) rfl ?_
        rw [nI_clamp (by omega), hfb]
        refine j_callV (As := []) (t := 21) C (c_S_takes _ (bs i) fs (kds i)) d_T_isCondition_18 jb_S_takes ml_T_148 jv_S_takes (by assumption) rfl rfl rfl (Nat.le_of_ble_eq_true rfl) (by decide) (by omega) (by omega) (⟨rfl, hfo, hf0⟩) rfl (fun r18 w18 p18 => ?_)
        obtain ⟨rfl, rfl⟩ := p18
        dsimp only [jst]
        rw [tk_I]
        have ht2 := tk_2 (kds i)
        refine j_istore_n (i := 3) (t := 22) (lv' := [(0, _), (1, _), (2, _), (3, _)]) C d_T_isCondition_21 rfl (by decide) (by decide) rfl rfl ?_
        refine j_iload_n (i := 3) (t := 23) C d_T_isCondition_22 rfl rfl rfl ?_
        refine j_iload_n (i := 1) (t := 24) C d_T_isCondition_23 rfl rfl rfl ?_
        refine j_icmp_le (tgt := 29) (t := 27) C d_T_isCondition_24 (by decide) rfl (fun h24 => ?_) (fun h24 => ?_)
        · rw [nI_leI (by omega) (by omega)] at h24
          refine j_iload_n (i := 1) (t := 30) C d_T_isCondition_29 rfl rfl rfl ?_
          refine j_iconst (x := 1) (t := 31) C d_T_isCondition_30 rfl rfl ?_
          refine j_iload_n (i := 3) (t := 32) C d_T_isCondition_31 rfl rfl rfl ?_
          refine j_isub (t := 33) C d_T_isCondition_32 rfl ?_
          refine j_iadd (t := 34) C d_T_isCondition_33 rfl ?_
          rw [wait_I h24 ht2]
          refine j_istore_n (i := 1) (t := 35) (lv' := [(0, _), (1, _), (2, _), (3, _)]) C d_T_isCondition_34 rfl (by decide) (by decide) rfl rfl ?_
          refine j_iinc (y := _ + 1) (t := 38) (lv' := [(0, _), (1, _), (2, _), (3, _)]) C d_T_isCondition_35 rfl rfl (by decide) (by decide) rfl rfl ?_
          refine j_goto (tgt := 4) C d_T_isCondition_38 (by decide) ?_
          refine j_pick [0, 1, 2] rfl ?_
          rw [nI_1]
          exact ih (i + 1) _ (by omega) (by omega) (wN_ok hw (by omega))
        · refine j_iconst (x := 0) (t := 28) C d_T_isCondition_27 rfl rfl ?_
          exact j_iret C d_T_isCondition_28 rfl (⟨rfl, by
            have hb := wN_none (wN_bad hw (by rw [nI_leI (by omega) (by omega)] at h24; omega)) (sn - (i + 1))
            rw [show i + 1 + (sn - (i + 1)) = sn by omega] at hb
            simp [isCnd, hb, bI, show ¬ sn = 0 by omega]⟩) (by omega) (by omega)
  refine j_iconst (x := 0) (t := 1) C d_T_isCondition_0 rfl rfl ?_
  refine j_istore_n (i := 1) (t := 2) (lv' := [(0, _), (1, _)]) C d_T_isCondition_1 rfl (by decide) (by decide) rfl rfl ?_
  refine j_iconst (x := 0) (t := 3) C d_T_isCondition_2 rfl rfl ?_
  refine j_istore_n (i := 2) (t := 4) (lv' := [(0, _), (1, _), (2, _)]) C d_T_isCondition_3 rfl (by decide) (by decide) rfl rfl ?_
  exact loop (sn + 1) 0 0 (by omega) (Nat.zero_le _) rfl

set_option maxHeartbeats 4000000 in
set_option maxRecDepth 100000 in
/-- stepsHaveRows -/
theorem c_T_stepsHaveRows (l : Launch) (a : Nat) (ac : Nat) (cc1 : Int32) (at1 : Nat) (tnI : Int32) (al : Nat) (lnI : Int32) (as1 : Nat) (aw ar : Nat) (znI : Int32) (au : Nat) (unI : Int32) (sn : Nat) (f : Nat → Option Nat) (bs : Nat → Nat) (c1 : Nat → Option Nat) (r1 : Nat → Nat) (c2 : Nat → Option Nat) (r2 : Nat → Nat) (n : Nat) : MC l y_T_stepsHaveRows b_T_stepsHaveRows 4 (some .boolean) 0 0 0
    (fun G w av => av = [.ref a, .int (nI n)] ∧ n ≤ 1000 ∧ jh w a (eO cT (tFs ac cc1 at1 tnI al lnI as1 (nI sn) aw ar znI au unI)) ∧ jh w as1 (eR G 6 64 f) ∧ sn ≤ 64 ∧ (∀ j, j < sn → f j = some (bs j) ∧ ∃ fs, jh w (bs j) (eO cS fs) ∧ fs[1]? = some (va_rf (c1 j)) ∧ fs[3]? = some (va_rf (c2 j)) ∧ (∀ c, c1 j = some c → r1 j ≤ 1000 ∧ ∃ cfs, jh w c (eO cC cfs) ∧ cfs[2]? = some (.int (nI (r1 j)))) ∧ (∀ c, c2 j = some c → r2 j ≤ 1000 ∧ ∃ cfs, jh w c (eO cC cfs) ∧ cfs[2]? = some (.int (nI (r2 j))))))
    (fun G w av r w' => w' = w ∧ r = some (.int (bI (sHR c1 r1 c2 r2 n sn)))) := by
  refine MC.of 99 (by decide) ?_
  intro X w av hl C hnm hp
  obtain ⟨rfl, hn, ha, has, hsn, hst⟩ := hp
  refine ⟨[(0, _), (1, _)], rfl, Nat.le_of_ble_eq_true rfl, rfl, ?_⟩
  have loop : ∀ (q i : Nat), sn + 1 ≤ i + q → i ≤ sn → sHR c1 r1 c2 r2 n i = true → J X (4, 99) (jQ X (fun r w' => w' = w ∧ r = some (.int (bI (sHR c1 r1 c2 r2 n sn)))) 0 0) w 0 0 2 [(0, .ref a), (1, .int (nI n)), (2, .int (nI i))] [] := by
    intro q
    induction q with
    | zero => intro i h1 h2; omega
    | succ q ih =>
      intro i hi1 hi2 hT
      refine j_iload_n (i := 2) (t := 3) C d_T_stepsHaveRows_2 rfl rfl rfl ?_
      refine j_aload_n (i := 0) (t := 4) C d_T_stepsHaveRows_3 rfl rfl (by first | exact jrv_r | exact jrv_n | exact jrv_f) rfl ?_
      refine j_get (t := 7) C fl_T_41 d_T_stepsHaveRows_4 (by assumption) (by first | rfl | assumption) rfl ?_
      refine j_icmp_ge (tgt := 63) (t := 10) C d_T_stepsHaveRows_7 (by decide) rfl (fun h7 => ?_) (fun h7 => ?_)
      · have hie : i = sn := by rw [nI_leI (by omega) (by omega)] at h7; omega
        subst hie
        refine j_iconst (x := 1) (t := 64) C d_T_stepsHaveRows_63 rfl rfl ?_
        exact j_iret C d_T_stepsHaveRows_64 rfl (⟨rfl, by rw [hT]; rfl⟩) (by omega) (by omega)
      · rw [nI_leI (by omega) (by omega)] at h7
        obtain ⟨hfb, fs, hfo, hf1, hf3, hr1, hr2⟩ := hst i (by omega)
        have hin : vp_in (nI i) 64 := vp_in_nI (by omega) (by omega)
        refine j_aload_n (i := 0) (t := 11) C d_T_stepsHaveRows_10 rfl rfl (by first | exact jrv_r | exact jrv_n | exact jrv_f) rfl ?_
        refine j_get (t := 14) C fl_T_37 d_T_stepsHaveRows_11 (by assumption) (by first | rfl | assumption) rfl ?_
        refine j_iload_n (i := 2) (t := 15) C d_T_stepsHaveRows_14 rfl rfl rfl ?_
        refine j_aaload (t := 16) C d_T_stepsHaveRows_15 (by assumption) (by rfl) (by assumption) rfl ?_
        rw [nI_clamp (by omega), hfb]
        refine j_lv (st' := [.ref (bs i)]) rfl rfl ?_
        refine j_astore_n (i := 3) (t := 17) (lv' := [(0, _), (1, _), (2, _), (3, _)]) C d_T_stepsHaveRows_16 rfl (by first | exact jrv_r | exact jrv_n | exact jrv_f) (by decide) (by decide) rfl rfl ?_
        refine j_aload_n (i := 3) (t := 18) C d_T_stepsHaveRows_17 rfl rfl (by first | exact jrv_r | exact jrv_n | exact jrv_f) rfl ?_
        refine j_get (t := 21) C fl_T_152 d_T_stepsHaveRows_18 (by assumption) (by first | rfl | assumption) rfl ?_
        refine j_ifnull (tgt := 37) (t := 24) C d_T_stepsHaveRows_21 (by decide) rfl (fun h21 => ?_) (fun a21 h21 => ?_)
        · refine j_aload_n (i := 3) (t := 38) C d_T_stepsHaveRows_37 rfl rfl (by first | exact jrv_r | exact jrv_n | exact jrv_f) rfl ?_
          refine j_get (t := 41) C fl_T_159 d_T_stepsHaveRows_38 (by assumption) (by first | rfl | assumption) rfl ?_
          refine j_ifnull (tgt := 57) (t := 44) C d_T_stepsHaveRows_41 (by decide) rfl (fun h41 => ?_) (fun a41 h41 => ?_)
          · refine j_iinc (y := _ + 1) (t := 60) (lv' := [(0, _), (1, _), (2, _), (3, _)]) C d_T_stepsHaveRows_57 rfl rfl (by decide) (by decide) rfl rfl ?_
            refine j_goto (tgt := 2) C d_T_stepsHaveRows_60 (by decide) ?_
            refine j_pick [0, 1, 2] rfl ?_
            rw [nI_1]
            exact ih (i + 1) (by omega) (by omega) (sHR_n hT (by first | exact Or.inl h21 | exact Or.inr ((nI_leI (by omega) (by omega)).mp h32)) (by first | exact Or.inl h41 | exact Or.inr ((nI_leI (by omega) (by omega)).mp h52)))
          · obtain ⟨hq2, cfs2, hco2, hc3'⟩ := hr2 _ h41
            refine j_aload_n (i := 3) (t := 45) C d_T_stepsHaveRows_44 rfl rfl (by first | exact jrv_r | exact jrv_n | exact jrv_f) rfl ?_
            refine j_get (t := 48) C fl_T_159 d_T_stepsHaveRows_45 (by assumption) (by first | rfl | assumption) rfl ?_
            refine j_lv (st' := [.ref a41]) rfl (by rw [h41]; rfl) ?_
            refine j_get (t := 51) C fl_T_156 d_T_stepsHaveRows_48 (by assumption) (by first | rfl | assumption) rfl ?_
            refine j_iload_n (i := 1) (t := 52) C d_T_stepsHaveRows_51 rfl rfl rfl ?_
            refine j_icmp_ge (tgt := 57) (t := 55) C d_T_stepsHaveRows_52 (by decide) rfl (fun h52 => ?_) (fun h52 => ?_)
            · refine j_iinc (y := _ + 1) (t := 60) (lv' := [(0, _), (1, _), (2, _), (3, _)]) C d_T_stepsHaveRows_57 rfl rfl (by decide) (by decide) rfl rfl ?_
              refine j_goto (tgt := 2) C d_T_stepsHaveRows_60 (by decide) ?_
              refine j_pick [0, 1, 2] rfl ?_
              rw [nI_1]
              exact ih (i + 1) (by omega) (by omega) (sHR_n hT (by first | exact Or.inl h21 | exact Or.inr ((nI_leI (by omega) (by omega)).mp h32)) (by first | exact Or.inl h41 | exact Or.inr ((nI_leI (by omega) (by omega)).mp h52)))
            · refine j_iconst (x := 0) (t := 56) C d_T_stepsHaveRows_55 rfl rfl ?_
              exact j_iret C d_T_stepsHaveRows_56 rfl (⟨rfl, by rw [sHR_f (i := i) (Or.inr ⟨by rw [h41]; simp, fun z => h52 (nI_le z (by omega))⟩) (by omega)]; rfl⟩) (by omega) (by omega)
        · obtain ⟨hq1, cfs, hco, hc2'⟩ := hr1 _ h21
          refine j_aload_n (i := 3) (t := 25) C d_T_stepsHaveRows_24 rfl rfl (by first | exact jrv_r | exact jrv_n | exact jrv_f) rfl ?_
          refine j_get (t := 28) C fl_T_152 d_T_stepsHaveRows_25 (by assumption) (by first | rfl | assumption) rfl ?_
          refine j_lv (st' := [.ref a21]) rfl (by rw [h21]; rfl) ?_
          refine j_get (t := 31) C fl_T_156 d_T_stepsHaveRows_28 (by assumption) (by first | rfl | assumption) rfl ?_
          refine j_iload_n (i := 1) (t := 32) C d_T_stepsHaveRows_31 rfl rfl rfl ?_
          refine j_icmp_ge (tgt := 37) (t := 35) C d_T_stepsHaveRows_32 (by decide) rfl (fun h32 => ?_) (fun h32 => ?_)
          · refine j_aload_n (i := 3) (t := 38) C d_T_stepsHaveRows_37 rfl rfl (by first | exact jrv_r | exact jrv_n | exact jrv_f) rfl ?_
            refine j_get (t := 41) C fl_T_159 d_T_stepsHaveRows_38 (by assumption) (by first | rfl | assumption) rfl ?_
            refine j_ifnull (tgt := 57) (t := 44) C d_T_stepsHaveRows_41 (by decide) rfl (fun h41 => ?_) (fun a41 h41 => ?_)
            · refine j_iinc (y := _ + 1) (t := 60) (lv' := [(0, _), (1, _), (2, _), (3, _)]) C d_T_stepsHaveRows_57 rfl rfl (by decide) (by decide) rfl rfl ?_
              refine j_goto (tgt := 2) C d_T_stepsHaveRows_60 (by decide) ?_
              refine j_pick [0, 1, 2] rfl ?_
              rw [nI_1]
              exact ih (i + 1) (by omega) (by omega) (sHR_n hT (by first | exact Or.inl h21 | exact Or.inr ((nI_leI (by omega) (by omega)).mp h32)) (by first | exact Or.inl h41 | exact Or.inr ((nI_leI (by omega) (by omega)).mp h52)))
            · obtain ⟨hq2, cfs2, hco2, hc3'⟩ := hr2 _ h41
              refine j_aload_n (i := 3) (t := 45) C d_T_stepsHaveRows_44 rfl rfl (by first | exact jrv_r | exact jrv_n | exact jrv_f) rfl ?_
              refine j_get (t := 48) C fl_T_159 d_T_stepsHaveRows_45 (by assumption) (by first | rfl | assumption) rfl ?_
              refine j_lv (st' := [.ref a41]) rfl (by rw [h41]; rfl) ?_
              refine j_get (t := 51) C fl_T_156 d_T_stepsHaveRows_48 (by assumption) (by first | rfl | assumption) rfl ?_
              refine j_iload_n (i := 1) (t := 52) C d_T_stepsHaveRows_51 rfl rfl rfl ?_
              refine j_icmp_ge (tgt := 57) (t := 55) C d_T_stepsHaveRows_52 (by decide) rfl (fun h52 => ?_) (fun h52 => ?_)
              · refine j_iinc (y := _ + 1) (t := 60) (lv' := [(0, _), (1, _), (2, _), (3, _)]) C d_T_stepsHaveRows_57 rfl rfl (by decide) (by decide) rfl rfl ?_
                refine j_goto (tgt := 2) C d_T_stepsHaveRows_60 (by decide) ?_
                refine j_pick [0, 1, 2] rfl ?_
                rw [nI_1]
                exact ih (i + 1) (by omega) (by omega) (sHR_n hT (by first | exact Or.inl h21 | exact Or.inr ((nI_leI (by omega) (by omega)).mp h32)) (by first | exact Or.inl h41 | exact Or.inr ((nI_leI (by omega) (by omega)).mp h52)))
              · refine j_iconst (x := 0) (t := 56) C d_T_stepsHaveRows_55 rfl rfl ?_
                exact j_iret C d_T_stepsHaveRows_56 rfl (⟨rfl, by rw [sHR_f (i := i) (Or.inr ⟨by rw [h41]; simp, fun z => h52 (nI_le z (by omega))⟩) (by omega)]; rfl⟩) (by omega) (by omega)
          · refine j_iconst (x := 0) (t := 36) C d_T_stepsHaveRows_35 rfl rfl ?_
            exact j_iret C d_T_stepsHaveRows_36 rfl (⟨rfl, by rw [sHR_f (i := i) (Or.inl ⟨by rw [h21]; simp, fun z => h32 (nI_le z (by omega))⟩) (by omega)]; rfl⟩) (by omega) (by omega)
  refine j_iconst (x := 0) (t := 1) C d_T_stepsHaveRows_0 rfl rfl ?_
  refine j_istore_n (i := 2) (t := 2) (lv' := [(0, _), (1, _), (2, _)]) C d_T_stepsHaveRows_1 rfl (by decide) (by decide) rfl rfl ?_
  exact loop (sn + 1) 0 (by omega) (Nat.zero_le _) rfl
