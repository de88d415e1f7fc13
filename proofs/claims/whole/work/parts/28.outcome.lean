set_option maxHeartbeats 4000000 in
set_option maxRecDepth 100000 in
/-- outcome -/
theorem c_T_outcome (l : Launch) (a : Nat) (ac : Nat) (cc1 : Int32) (at1 : Nat) (tnI : Int32) (al : Nat) (lnI : Int32) (as1 : Nat) (aw ar : Nat) (znI : Int32) (au : Nat) (unI : Int32) (sn : Nat) (f : Nat → Option Nat) (fw0 : Nat → Int32) (bs : Nat → Nat) (kds at2 : Nat → Int32) (x : Int32) : MC l y_T_outcome b_T_outcome 6 (some .int) 5 0 0
    (fun G w av => av = [.ref a, .int x] ∧ G.2.1 0 ≠ G.2.1 1 ∧ jh w a (eO cT (tFs ac cc1 at1 tnI al lnI as1 (nI sn) aw ar znI au unI)) ∧ jh w as1 (eR G 6 64 f) ∧ jh w aw (eI G 64 fw0) ∧ sn ≤ 64 ∧ isCnd kds sn = true ∧ (∀ j, j < sn → f j = some (bs j) ∧ ∃ fs, jh w (bs j) (eO cS fs) ∧ fs[0]? = some (.int (kds j))) ∧ (x = -1 → ∀ j, j < sn → kds j < 5 → canP G w (bs j) (at2 j)) ∧ (¬ x = -1 → ∃ r1, x = nI r1 ∧ ∀ j, j < sn → kds j < 5 → rowP G w (bs j) r1 (at2 j)))
    (fun G w av r w' => r = some (.int (outc at2 kds sn)) ∧ (∃ fw, jh w' aw (eI G 64 fw)) ∧ KA w w' [aw] ∧ PK G w w') := by
  refine MC.of 99 (by decide) ?_
  intro X w av hl C hnm hp
  obtain ⟨rfl, hG, ha, has, haw, hsn, hcn, hst, hcan, hrow⟩ := hp
  refine ⟨[(0, _), (1, _)], rfl, Nat.le_of_ble_eq_true rfl, rfl, ?_⟩
  have hnw : a ≠ aw := jh_ne ha haw (by simp)
  have loop : 0 < sn → ∀ (q i c : Nat) (wi : jw) (fi : Nat → Int32), sn + 1 ≤ i + q → i ≤ sn → wN kds i = some c → jh wi a (eO cT (tFs ac cc1 at1 tnI al lnI as1 (nI sn) aw ar znI au unI)) → jh wi aw (eI (xG X) 64 fi) → (∀ j, j < c → fi j = stk at2 kds i j) → KA w wi [aw] → PK (xG X) w wi → J X (6, 99) (jQ X (fun r w' => r = some (.int (outc at2 kds sn)) ∧ (∃ fw, jh w' aw (eI (xG X) 64 fw)) ∧ KA w w' [aw] ∧ PK (xG X) w w') 0 0) wi 0 0 13 [(0, .ref a), (1, .int x), (2, .int (nI c)), (3, .int (nI i))] [] := by
    intro hs0
    have hwn : wN kds sn = some 1 := by
      simp [isCnd, show ¬ sn = 0 by omega] at hcn
      exact hcn
    intro q
    induction q with
    | zero => intro i c wi fi h1 h2; omega
    | succ q ih =>
      intro i c wi fi hi1 hi2 hw hai hwi hfi hKi hPi
      have hci := wN_le hw
      have hasi := hPi _ _ nI_R has
      refine j_iload_n (i := 3) (t := 14) C d_T_outcome_13 rfl rfl rfl ?_
      refine j_aload_n (i := 0) (t := 15) C d_T_outcome_14 rfl rfl (by first | exact jrv_r | exact jrv_n | exact jrv_f) rfl ?_
      refine j_get (t := 18) C fl_T_41 d_T_outcome_15 (by assumption) (by first | rfl | assumption) rfl ?_
      refine j_icmp_ge (tgt := 174) (t := 21) C d_T_outcome_18 (by decide) rfl (fun h18 => ?_) (fun h18 => ?_)
      · have hie : i = sn := by rw [nI_leI (by omega) (by omega)] at h18; omega
        subst hie
        have hc1 : c = 1 := by rw [hwn] at hw; cases hw; rfl
        subst hc1
        have hin0 : vp_in (0 : Int32) 64 := by rw [← nI_0]; exact vp_in_nI (by omega) (by omega)
        refine j_aload_n (i := 0) (t := 175) C d_T_outcome_174 rfl rfl (by first | exact jrv_r | exact jrv_n | exact jrv_f) rfl ?_
        refine j_get (t := 178) C fl_T_44 d_T_outcome_175 (by assumption) (by first | rfl | assumption) rfl ?_
        refine j_iconst (x := 0) (t := 179) C d_T_outcome_178 rfl rfl ?_
        refine j_iaload (t := 180) C d_T_outcome_179 (by assumption) (by assumption) rfl ?_
        exact j_iret C d_T_outcome_180 rfl (⟨by unfold outc; rw [if_neg (by omega), ← hfi 0 (by omega)]; rfl, ⟨fi, hwi⟩, hKi, hPi⟩) (by omega) (by omega)
      · rw [nI_leI (by omega) (by omega)] at h18
        obtain ⟨hfb, fs, hfo0, hf0⟩ := hst i (by omega)
        have hfo := hPi _ _ nI_O hfo0
        have hin : vp_in (nI i) 64 := vp_in_nI (by omega) (by omega)
        have ht2 := tk_2 (kds i)
        have htc : tkN (kds i) ≤ c := by
          rcases Nat.lt_or_ge c (tkN (kds i)) with z | z
          · have hb := wN_none (wN_bad hw z) (sn - (i + 1))
            rw [show i + 1 + (sn - (i + 1)) = sn by omega, hwn] at hb
            cases hb
          · exact z
        refine j_aload_n (i := 0) (t := 22) C d_T_outcome_21 rfl rfl (by first | exact jrv_r | exact jrv_n | exact jrv_f) rfl ?_
        refine j_get (t := 25) C fl_T_37 d_T_outcome_22 (by assumption) (by first | rfl | assumption) rfl ?_
        refine j_iload_n (i := 3) (t := 26) C d_T_outcome_25 rfl rfl rfl ?_
        refine j_aaload (t := 27) C d_T_outcome_26 (by assumption) (by rfl) (by assumption) rfl ?_
        rw [nI_clamp (by omega), hfb]
        refine j_lv (st' := [.ref (bs i)]) rfl rfl ?_
        refine j_astore (i := 4) (t := 29) (lv' := [(0, _), (1, _), (2, _), (3, _), (4, _)]) C d_T_outcome_27 (by first | exact jrv_r | exact jrv_n | exact jrv_f) (by decide) (by decide) rfl rfl ?_
        refine j_aload (t := 31) C d_T_outcome_29 rfl (by first | exact jrv_r | exact jrv_n | exact jrv_f) rfl ?_
        refine j_callV (As := []) (t := 34) C (c_S_takes _ (bs i) fs (kds i)) d_T_outcome_31 jb_S_takes ml_T_148 jv_S_takes (by assumption) rfl rfl rfl (Nat.le_of_ble_eq_true rfl) (by decide) (by omega) (by omega) (⟨rfl, hfo, hf0⟩) rfl (fun r31 w31 p31 => ?_)
        obtain ⟨rfl, rfl⟩ := p31
        dsimp only [jst]
        rw [tk_I]
        refine j_istore (i := 5) (t := 36) (lv' := [(0, _), (1, _), (2, _), (3, _), (4, _), (5, _)]) C d_T_outcome_34 (by decide) (by decide) rfl rfl ?_
        refine j_iload (t := 38) C d_T_outcome_36 rfl rfl ?_
        refine j_iload_n (i := 2) (t := 39) C d_T_outcome_38 rfl rfl rfl ?_
        refine j_icmp_le (tgt := 44) (t := 42) C d_T_outcome_39 (by decide) rfl (fun h39 => ?_) (fun h39 => absurd h39 (not_not_intro (nI_le htc (by omega))))
        refine j_iload_n (i := 2) (t := 45) C d_T_outcome_44 rfl rfl rfl ?_
        refine j_iload (t := 47) C d_T_outcome_45 rfl rfl ?_
        refine j_isub (t := 48) C d_T_outcome_47 rfl ?_
        rw [pk_sub htc]
        refine j_istore_n (i := 2) (t := 49) (lv' := [(0, _), (1, _), (2, _), (3, _), (4, _), (5, _)]) C d_T_outcome_48 rfl (by decide) (by decide) rfl rfl ?_
        refine j_iload (t := 51) C d_T_outcome_49 rfl rfl ?_
        refine j_if_ne (tgt := 82) (t := 54) C d_T_outcome_51 (by decide) rfl (fun h51 => ?_) (fun h51 => ?_)
        · have ht0 : ¬ tkN (kds i) = 0 := fun z => h51 (by rw [z]; rfl)
          refine j_iload (t := 84) C d_T_outcome_82 rfl rfl ?_
          refine j_iconst (x := 1) (t := 85) C d_T_outcome_84 rfl rfl ?_
          refine j_icmp_ne (tgt := 106) (t := 88) C d_T_outcome_85 (by decide) rfl (fun h85 => ?_) (fun h85 => ?_)
          · have ht1 : ¬ tkN (kds i) = 1 := fun z => h85 (by rw [z]; rfl)
            have ht3 : tkN (kds i) = 2 := by omega
            rw [ht3]
            have hic : vp_in (nI (c - 2)) 64 := vp_in_nI (by omega) (by omega)
            have hid : vp_in (nI (c - 1)) 64 := vp_in_nI (by omega) (by omega)
            refine j_aload (t := 108) C d_T_outcome_106 rfl (by first | exact jrv_r | exact jrv_n | exact jrv_f) rfl ?_
            refine j_get (t := 111) C fl_T_171 d_T_outcome_108 (by assumption) (by first | rfl | assumption) rfl ?_
            refine j_bipush (x := 6) (t := 113) C d_T_outcome_111 rfl rfl ?_
            refine j_icmp_ne (tgt := 142) (t := 116) C d_T_outcome_113 (by decide) rfl (fun h113 => ?_) (fun h113 => ?_)
            · refine j_aload_n (i := 0) (t := 143) C d_T_outcome_142 rfl rfl (by first | exact jrv_r | exact jrv_n | exact jrv_f) rfl ?_
              refine j_get (t := 146) C fl_T_44 d_T_outcome_143 (by assumption) (by first | rfl | assumption) rfl ?_
              refine j_iload_n (i := 2) (t := 147) C d_T_outcome_146 rfl rfl rfl ?_
              refine j_aload_n (i := 0) (t := 148) C d_T_outcome_147 rfl rfl (by first | exact jrv_r | exact jrv_n | exact jrv_f) rfl ?_
              refine j_get (t := 151) C fl_T_44 d_T_outcome_148 (by assumption) (by first | rfl | assumption) rfl ?_
              refine j_iload_n (i := 2) (t := 152) C d_T_outcome_151 rfl rfl rfl ?_
              refine j_iaload (t := 153) C d_T_outcome_152 (by assumption) (by assumption) rfl ?_
              refine j_aload_n (i := 0) (t := 154) C d_T_outcome_153 rfl rfl (by first | exact jrv_r | exact jrv_n | exact jrv_f) rfl ?_
              refine j_get (t := 157) C fl_T_44 d_T_outcome_154 (by assumption) (by first | rfl | assumption) rfl ?_
              refine j_iload_n (i := 2) (t := 158) C d_T_outcome_157 rfl rfl rfl ?_
              refine j_iconst (x := 1) (t := 159) C d_T_outcome_158 rfl rfl ?_
              refine j_iadd (t := 160) C d_T_outcome_159 rfl ?_
              rw [nI_1, show c - 2 + 1 = c - 1 by omega]
              refine j_iaload (t := 161) C d_T_outcome_160 (by assumption) (by assumption) rfl ?_
              refine j_callS (As := [_, _]) (t := 164) C (c_T_or _ _ _) d_T_outcome_161 jb_T_or ml_T_178 st_T_or rfl (Nat.le_of_ble_eq_true rfl) (by decide) (by omega) (by omega) (rfl) rfl (fun r161 w161 p161 => ?_)
              obtain ⟨rfl, rfl⟩ := p161
              dsimp only [jst]
              refine j_iastoreW (t := 165) C d_T_outcome_164 (by assumption) (by assumption) rfl (fun w164 e164 h164 f164 => ?_)
              rw [nI_clamp (by omega), nI_clamp (by omega)] at h164
              refine j_iinc (y := _ + 1) (t := 168) (lv' := [(0, _), (1, _), (2, _), (3, _), (4, _), (5, _)]) C d_T_outcome_165 rfl rfl (by decide) (by decide) rfl rfl ?_
              refine j_iinc (y := _ + 1) (t := 171) (lv' := [(0, _), (1, _), (2, _), (3, _), (4, _), (5, _)]) C d_T_outcome_168 rfl rfl (by decide) (by decide) rfl rfl ?_
              refine j_goto (tgt := 13) C d_T_outcome_171 (by decide) ?_
              refine j_pick [0, 1, 2, 3] rfl ?_
              simp only [nI_1]
              have hwk := wN_ok hw (show ¬ c < tkN (kds i) by omega)
              first | (rw [show c + 1 = c + 1 - tkN (kds i) by omega]; exact ih (i + 1) _ w78 _ (by omega) (by omega) hwk (f78 _ _ hnw hai) h78 (stk_0 hw hfi ht0) (hKi.put f78 (by simp)) (hPi.put hwi f78)) | (rw [show c - 1 + 1 = c + 1 - tkN (kds i) by omega]; exact ih (i + 1) _ w102 _ (by omega) (by omega) hwk (f102 _ _ hnw hai) h102 (stk_1 hw hfi ht1 (by omega)) (hKi.put f102 (by simp)) (hPi.put hwi f102)) | (rw [show c - 2 + 1 = c + 1 - tkN (kds i) by omega]; exact ih (i + 1) _ w138 _ (by omega) (by omega) hwk (f138 _ _ hnw hai) h138 (stk_a hw hfi ht3 h113 (by omega)) (hKi.put f138 (by simp)) (hPi.put hwi f138)) | (rw [show c - 2 + 1 = c + 1 - tkN (kds i) by omega]; exact ih (i + 1) _ w164 _ (by omega) (by omega) hwk (f164 _ _ hnw hai) h164 (stk_o hw hfi ht3 h113 (by omega)) (hKi.put f164 (by simp)) (hPi.put hwi f164))
            · refine j_aload_n (i := 0) (t := 117) C d_T_outcome_116 rfl rfl (by first | exact jrv_r | exact jrv_n | exact jrv_f) rfl ?_
              refine j_get (t := 120) C fl_T_44 d_T_outcome_117 (by assumption) (by first | rfl | assumption) rfl ?_
              refine j_iload_n (i := 2) (t := 121) C d_T_outcome_120 rfl rfl rfl ?_
              refine j_aload_n (i := 0) (t := 122) C d_T_outcome_121 rfl rfl (by first | exact jrv_r | exact jrv_n | exact jrv_f) rfl ?_
              refine j_get (t := 125) C fl_T_44 d_T_outcome_122 (by assumption) (by first | rfl | assumption) rfl ?_
              refine j_iload_n (i := 2) (t := 126) C d_T_outcome_125 rfl rfl rfl ?_
              refine j_iaload (t := 127) C d_T_outcome_126 (by assumption) (by assumption) rfl ?_
              refine j_aload_n (i := 0) (t := 128) C d_T_outcome_127 rfl rfl (by first | exact jrv_r | exact jrv_n | exact jrv_f) rfl ?_
              refine j_get (t := 131) C fl_T_44 d_T_outcome_128 (by assumption) (by first | rfl | assumption) rfl ?_
              refine j_iload_n (i := 2) (t := 132) C d_T_outcome_131 rfl rfl rfl ?_
              refine j_iconst (x := 1) (t := 133) C d_T_outcome_132 rfl rfl ?_
              refine j_iadd (t := 134) C d_T_outcome_133 rfl ?_
              rw [nI_1, show c - 2 + 1 = c - 1 by omega]
              refine j_iaload (t := 135) C d_T_outcome_134 (by assumption) (by assumption) rfl ?_
              refine j_callS (As := [_, _]) (t := 138) C (c_T_and _ _ _) d_T_outcome_135 jb_T_and ml_T_174 st_T_and rfl (Nat.le_of_ble_eq_true rfl) (by decide) (by omega) (by omega) (rfl) rfl (fun r135 w135 p135 => ?_)
              obtain ⟨rfl, rfl⟩ := p135
              dsimp only [jst]
              refine j_iastoreW (t := 139) C d_T_outcome_138 (by assumption) (by assumption) rfl (fun w138 e138 h138 f138 => ?_)
              rw [nI_clamp (by omega), nI_clamp (by omega)] at h138
              refine j_goto (tgt := 165) C d_T_outcome_139 (by decide) ?_
              refine j_iinc (y := _ + 1) (t := 168) (lv' := [(0, _), (1, _), (2, _), (3, _), (4, _), (5, _)]) C d_T_outcome_165 rfl rfl (by decide) (by decide) rfl rfl ?_
              refine j_iinc (y := _ + 1) (t := 171) (lv' := [(0, _), (1, _), (2, _), (3, _), (4, _), (5, _)]) C d_T_outcome_168 rfl rfl (by decide) (by decide) rfl rfl ?_
              refine j_goto (tgt := 13) C d_T_outcome_171 (by decide) ?_
              refine j_pick [0, 1, 2, 3] rfl ?_
              simp only [nI_1]
              have hwk := wN_ok hw (show ¬ c < tkN (kds i) by omega)
              first | (rw [show c + 1 = c + 1 - tkN (kds i) by omega]; exact ih (i + 1) _ w78 _ (by omega) (by omega) hwk (f78 _ _ hnw hai) h78 (stk_0 hw hfi ht0) (hKi.put f78 (by simp)) (hPi.put hwi f78)) | (rw [show c - 1 + 1 = c + 1 - tkN (kds i) by omega]; exact ih (i + 1) _ w102 _ (by omega) (by omega) hwk (f102 _ _ hnw hai) h102 (stk_1 hw hfi ht1 (by omega)) (hKi.put f102 (by simp)) (hPi.put hwi f102)) | (rw [show c - 2 + 1 = c + 1 - tkN (kds i) by omega]; exact ih (i + 1) _ w138 _ (by omega) (by omega) hwk (f138 _ _ hnw hai) h138 (stk_a hw hfi ht3 h113 (by omega)) (hKi.put f138 (by simp)) (hPi.put hwi f138)) | (rw [show c - 2 + 1 = c + 1 - tkN (kds i) by omega]; exact ih (i + 1) _ w164 _ (by omega) (by omega) hwk (f164 _ _ hnw hai) h164 (stk_o hw hfi ht3 h113 (by omega)) (hKi.put f164 (by simp)) (hPi.put hwi f164))
          · have ht1 : tkN (kds i) = 1 := (nI_eq (by omega) (by omega)).mp (by rw [h85]; rfl)
            rw [ht1]
            have hic : vp_in (nI (c - 1)) 64 := vp_in_nI (by omega) (by omega)
            refine j_aload_n (i := 0) (t := 89) C d_T_outcome_88 rfl rfl (by first | exact jrv_r | exact jrv_n | exact jrv_f) rfl ?_
            refine j_get (t := 92) C fl_T_44 d_T_outcome_89 (by assumption) (by first | rfl | assumption) rfl ?_
            refine j_iload_n (i := 2) (t := 93) C d_T_outcome_92 rfl rfl rfl ?_
            refine j_aload_n (i := 0) (t := 94) C d_T_outcome_93 rfl rfl (by first | exact jrv_r | exact jrv_n | exact jrv_f) rfl ?_
            refine j_get (t := 97) C fl_T_44 d_T_outcome_94 (by assumption) (by first | rfl | assumption) rfl ?_
            refine j_iload_n (i := 2) (t := 98) C d_T_outcome_97 rfl rfl rfl ?_
            refine j_iaload (t := 99) C d_T_outcome_98 (by assumption) (by assumption) rfl ?_
            refine j_callS (As := [_]) (t := 102) C (c_T_not _ _) d_T_outcome_99 jb_T_not ml_T_168 st_T_not rfl (Nat.le_of_ble_eq_true rfl) (by decide) (by omega) (by omega) (rfl) rfl (fun r99 w99 p99 => ?_)
            obtain ⟨rfl, rfl⟩ := p99
            dsimp only [jst]
            refine j_iastoreW (t := 103) C d_T_outcome_102 (by assumption) (by assumption) rfl (fun w102 e102 h102 f102 => ?_)
            rw [nI_clamp (by omega)] at h102
            refine j_goto (tgt := 165) C d_T_outcome_103 (by decide) ?_
            refine j_iinc (y := _ + 1) (t := 168) (lv' := [(0, _), (1, _), (2, _), (3, _), (4, _), (5, _)]) C d_T_outcome_165 rfl rfl (by decide) (by decide) rfl rfl ?_
            refine j_iinc (y := _ + 1) (t := 171) (lv' := [(0, _), (1, _), (2, _), (3, _), (4, _), (5, _)]) C d_T_outcome_168 rfl rfl (by decide) (by decide) rfl rfl ?_
            refine j_goto (tgt := 13) C d_T_outcome_171 (by decide) ?_
            refine j_pick [0, 1, 2, 3] rfl ?_
            simp only [nI_1]
            have hwk := wN_ok hw (show ¬ c < tkN (kds i) by omega)
            first | (rw [show c + 1 = c + 1 - tkN (kds i) by omega]; exact ih (i + 1) _ w78 _ (by omega) (by omega) hwk (f78 _ _ hnw hai) h78 (stk_0 hw hfi ht0) (hKi.put f78 (by simp)) (hPi.put hwi f78)) | (rw [show c - 1 + 1 = c + 1 - tkN (kds i) by omega]; exact ih (i + 1) _ w102 _ (by omega) (by omega) hwk (f102 _ _ hnw hai) h102 (stk_1 hw hfi ht1 (by omega)) (hKi.put f102 (by simp)) (hPi.put hwi f102)) | (rw [show c - 2 + 1 = c + 1 - tkN (kds i) by omega]; exact ih (i + 1) _ w138 _ (by omega) (by omega) hwk (f138 _ _ hnw hai) h138 (stk_a hw hfi ht3 h113 (by omega)) (hKi.put f138 (by simp)) (hPi.put hwi f138)) | (rw [show c - 2 + 1 = c + 1 - tkN (kds i) by omega]; exact ih (i + 1) _ w164 _ (by omega) (by omega) hwk (f164 _ _ hnw hai) h164 (stk_o hw hfi ht3 h113 (by omega)) (hKi.put f164 (by simp)) (hPi.put hwi f164))
        · have ht0 : tkN (kds i) = 0 := (nI_eq (by omega) (by omega)).mp (by rw [h51]; rfl)
          have hk5 : kds i < 5 := by
            by_cases z : kds i < 5
            · exact z
            · exfalso; unfold tkN at ht0; rw [if_neg z] at ht0; split at ht0 <;> omega
          have hcc : c - tkN (kds i) = c := by omega
          rw [hcc]
          have hic : vp_in (nI c) 64 := vp_in_nI (by omega) (by omega)
          refine j_aload_n (i := 0) (t := 55) C d_T_outcome_54 rfl rfl (by first | exact jrv_r | exact jrv_n | exact jrv_f) rfl ?_
          refine j_get (t := 58) C fl_T_44 d_T_outcome_55 (by assumption) (by first | rfl | assumption) rfl ?_
          refine j_iload_n (i := 2) (t := 59) C d_T_outcome_58 rfl rfl rfl ?_
          refine j_iload_n (i := 1) (t := 60) C d_T_outcome_59 rfl rfl rfl ?_
          refine j_iconst (x := (-1)) (t := 61) C d_T_outcome_60 rfl rfl ?_
          refine j_icmp_ne (tgt := 72) (t := 64) C d_T_outcome_61 (by decide) rfl (fun h61 => ?_) (fun h61 => ?_)
          · obtain ⟨r1, hx1, hrw⟩ := hrow h61
            refine j_aload (t := 74) C d_T_outcome_72 rfl (by first | exact jrv_r | exact jrv_n | exact jrv_f) rfl ?_
            refine j_iload_n (i := 1) (t := 75) C d_T_outcome_74 rfl rfl rfl ?_
            refine j_callV (As := [_]) (t := 78) C (c_S_atRow _ (bs i) r1 (at2 i)) d_T_outcome_75 jb_S_atRow ml_T_165 jv_S_atRow (by assumption) rfl rfl rfl (Nat.le_of_ble_eq_true rfl) (by decide) (by omega) (by omega) (⟨by rw [hx1], rowP_pk hG hPi (hrw i (by omega) hk5)⟩) rfl (fun r75 w75 p75 => ?_)
            obtain ⟨rfl, rfl⟩ := p75
            dsimp only [jst]
            refine j_iastoreW (t := 79) C d_T_outcome_78 (by assumption) (by assumption) rfl (fun w78 e78 h78 f78 => ?_)
            rw [nI_clamp (by omega)] at h78
            refine j_goto (tgt := 165) C d_T_outcome_79 (by decide) ?_
            refine j_iinc (y := _ + 1) (t := 168) (lv' := [(0, _), (1, _), (2, _), (3, _), (4, _), (5, _)]) C d_T_outcome_165 rfl rfl (by decide) (by decide) rfl rfl ?_
            refine j_iinc (y := _ + 1) (t := 171) (lv' := [(0, _), (1, _), (2, _), (3, _), (4, _), (5, _)]) C d_T_outcome_168 rfl rfl (by decide) (by decide) rfl rfl ?_
            refine j_goto (tgt := 13) C d_T_outcome_171 (by decide) ?_
            refine j_pick [0, 1, 2, 3] rfl ?_
            simp only [nI_1]
            have hwk := wN_ok hw (show ¬ c < tkN (kds i) by omega)
            first | (rw [show c + 1 = c + 1 - tkN (kds i) by omega]; exact ih (i + 1) _ w78 _ (by omega) (by omega) hwk (f78 _ _ hnw hai) h78 (stk_0 hw hfi ht0) (hKi.put f78 (by simp)) (hPi.put hwi f78)) | (rw [show c - 1 + 1 = c + 1 - tkN (kds i) by omega]; exact ih (i + 1) _ w102 _ (by omega) (by omega) hwk (f102 _ _ hnw hai) h102 (stk_1 hw hfi ht1 (by omega)) (hKi.put f102 (by simp)) (hPi.put hwi f102)) | (rw [show c - 2 + 1 = c + 1 - tkN (kds i) by omega]; exact ih (i + 1) _ w138 _ (by omega) (by omega) hwk (f138 _ _ hnw hai) h138 (stk_a hw hfi ht3 h113 (by omega)) (hKi.put f138 (by simp)) (hPi.put hwi f138)) | (rw [show c - 2 + 1 = c + 1 - tkN (kds i) by omega]; exact ih (i + 1) _ w164 _ (by omega) (by omega) hwk (f164 _ _ hnw hai) h164 (stk_o hw hfi ht3 h113 (by omega)) (hKi.put f164 (by simp)) (hPi.put hwi f164))
          · refine j_aload (t := 66) C d_T_outcome_64 rfl (by first | exact jrv_r | exact jrv_n | exact jrv_f) rfl ?_
            refine j_callV (As := []) (t := 69) C (c_S_canBe _ (bs i) (at2 i)) d_T_outcome_66 jb_S_canBe ml_T_162 jv_S_canBe (by assumption) rfl rfl rfl (Nat.le_of_ble_eq_true rfl) (by decide) (by omega) (by omega) (⟨rfl, canP_pk hG hPi (hcan h61 i (by omega) hk5)⟩) rfl (fun r66 w66 p66 => ?_)
            obtain ⟨rfl, rfl⟩ := p66
            dsimp only [jst]
            refine j_goto (tgt := 78) C d_T_outcome_69 (by decide) ?_
            refine j_iastoreW (t := 79) C d_T_outcome_78 (by assumption) (by assumption) rfl (fun w78 e78 h78 f78 => ?_)
            rw [nI_clamp (by omega)] at h78
            refine j_goto (tgt := 165) C d_T_outcome_79 (by decide) ?_
            refine j_iinc (y := _ + 1) (t := 168) (lv' := [(0, _), (1, _), (2, _), (3, _), (4, _), (5, _)]) C d_T_outcome_165 rfl rfl (by decide) (by decide) rfl rfl ?_
            refine j_iinc (y := _ + 1) (t := 171) (lv' := [(0, _), (1, _), (2, _), (3, _), (4, _), (5, _)]) C d_T_outcome_168 rfl rfl (by decide) (by decide) rfl rfl ?_
            refine j_goto (tgt := 13) C d_T_outcome_171 (by decide) ?_
            refine j_pick [0, 1, 2, 3] rfl ?_
            simp only [nI_1]
            have hwk := wN_ok hw (show ¬ c < tkN (kds i) by omega)
            first | (rw [show c + 1 = c + 1 - tkN (kds i) by omega]; exact ih (i + 1) _ w78 _ (by omega) (by omega) hwk (f78 _ _ hnw hai) h78 (stk_0 hw hfi ht0) (hKi.put f78 (by simp)) (hPi.put hwi f78)) | (rw [show c - 1 + 1 = c + 1 - tkN (kds i) by omega]; exact ih (i + 1) _ w102 _ (by omega) (by omega) hwk (f102 _ _ hnw hai) h102 (stk_1 hw hfi ht1 (by omega)) (hKi.put f102 (by simp)) (hPi.put hwi f102)) | (rw [show c - 2 + 1 = c + 1 - tkN (kds i) by omega]; exact ih (i + 1) _ w138 _ (by omega) (by omega) hwk (f138 _ _ hnw hai) h138 (stk_a hw hfi ht3 h113 (by omega)) (hKi.put f138 (by simp)) (hPi.put hwi f138)) | (rw [show c - 2 + 1 = c + 1 - tkN (kds i) by omega]; exact ih (i + 1) _ w164 _ (by omega) (by omega) hwk (f164 _ _ hnw hai) h164 (stk_o hw hfi ht3 h113 (by omega)) (hKi.put f164 (by simp)) (hPi.put hwi f164))
  refine j_aload_n (i := 0) (t := 1) C d_T_outcome_0 rfl rfl (by first | exact jrv_r | exact jrv_n | exact jrv_f) rfl ?_
  refine j_get (t := 4) C fl_T_41 d_T_outcome_1 (by assumption) (by first | rfl | assumption) rfl ?_
  refine j_if_ne (tgt := 9) (t := 7) C d_T_outcome_4 (by decide) rfl (fun h4 => ?_) (fun h4 => ?_)
  · refine j_iconst (x := 0) (t := 10) C d_T_outcome_9 rfl rfl ?_
    refine j_istore_n (i := 2) (t := 11) (lv' := [(0, _), (1, _), (2, _)]) C d_T_outcome_10 rfl (by decide) (by decide) rfl rfl ?_
    refine j_iconst (x := 0) (t := 12) C d_T_outcome_11 rfl rfl ?_
    refine j_istore_n (i := 3) (t := 13) (lv' := [(0, _), (1, _), (2, _), (3, _)]) C d_T_outcome_12 rfl (by decide) (by decide) rfl rfl ?_
    have hs0 : 0 < sn := Nat.pos_of_ne_zero (fun z => h4 (by rw [z]; rfl))
    exact loop hs0 (sn + 1) 0 0 w fw0 (by omega) (Nat.zero_le _) rfl ha haw (fun j hj => by omega) KA.rf PK.rf
  · refine j_iconst (x := 2) (t := 8) C d_T_outcome_7 rfl rfl ?_
    exact j_iret C d_T_outcome_8 rfl (⟨by unfold outc; rw [if_pos ((nI_eq (by omega) (by omega)).mp (by rw [h4]; rfl))], ⟨fw0, haw⟩, KA.rf, PK.rf⟩) (by omega) (by omega)
