theorem dict_fill {G : jG} {w : jw} {fi : Nat → Option Nat} {g : Nat → jv} {k b : Nat} {x : jv} (h : ∀ j, j < k → ∃ b, fi j = some b ∧ isV G w b (g j)) (hx : isV G w b x) : ∀ j, j < k + 1 → ∃ b', va_up fi k (some b) j = some b' ∧ isV G w b' (va_up g k x j) := by
  intro j hj
  by_cases q : j = k
  · subst q
    exact ⟨b, va_up_self _ _ _, by rw [va_up_self]; exact hx⟩
  · rw [va_up_ne _ _ q, va_up_ne _ _ q]
    exact h j (by omega)
set_option maxHeartbeats 4000000 in
set_option maxRecDepth 100000 in
/-- learnDictionary -/
theorem c_C_learnDictionary (l : Launch) (a ra : Nat) (ty tb : Int32) (kn : Bool) (kr km : Int32) (lA hA : Option Nat) (ea : Nat) (ec : Int32) (sa rc : Nat) (f fs0 : Nat → Option Nat) (rf : Nat → Option jv) (lo hi : Option jv) : MC l y_C_learnDictionary b_C_learnDictionary 4 (some .boolean) 2 0 0
    (fun G w av => av = [.ref a] ∧ jh w a (eO cC (kFs ty ra (nI rc) tb (bI kn) kr km lA hA ea ec sa)) ∧ jh w ra (eR G 5 1000 f) ∧ rc ≤ 1000 ∧ (∀ j, j < rc → isO G w (f j) (rf j)) ∧ jh w sa (eR G 5 100 fs0) ∧ (kn = true → isO G w lA lo ∧ isO G w hA hi))
    (fun G w av r w' => match dcr kn lo hi rf rc with | none => r = some (.int 0) ∧ (∃ f', jh w' sa (eR G 5 100 f')) ∧ KA w w' [sa] | some (k, g) => r = some (.int 1) ∧ k ≤ 100 ∧ (∃ f', jh w' sa (eR G 5 100 f') ∧ ∀ j, j < k → ∃ b, f' j = some b ∧ isV G w b (g j)) ∧ jh w' a (eO cC (kFs ty ra (nI rc) tb 1 kr km lA hA sa (nI k) ea)) ∧ KA w w' [a, sa]) := by
  refine MC.of 99 (by decide) ?_
  intro X w av hl C hnm hp
  obtain ⟨rfl, ha, hra, hrc, hf, hsa, hlh⟩ := hp
  have hne : a ≠ sa := jh_ne ha hsa (by simp)
  have hne2 : ra ≠ sa := jh_ne hra hsa (by simp)
  have hM : MU (xG X) w [sa] := MU.cons hsa mE_R MU.nil
  refine ⟨[(0, _)], rfl, Nat.le_of_ble_eq_true rfl, rfl, ?_⟩
  cases kn with
  | false =>
    refine j_aload_n (i := 0) (t := 1) C d_C_learnDictionary_0 rfl rfl (by first | exact jrv_r | exact jrv_n | exact jrv_f) rfl ?_
    refine j_get (t := 4) C fl_C_24 d_C_learnDictionary_1 (by assumption) (by first | rfl | assumption) rfl ?_
    refine j_if_eq (tgt := 21) (t := 7) C d_C_learnDictionary_4 (by decide) rfl (fun h4 => ?_) (fun h4 => absurd h4 (by decide))
    refine j_iconst (x := 0) (t := 22) C d_C_learnDictionary_21 rfl rfl ?_
    exact j_iret C d_C_learnDictionary_22 rfl (by rw [dcr_f]; exact ⟨rfl, ⟨_, hsa⟩, KA.rf⟩) (by omega) (by omega)
  | true =>
    obtain ⟨hlo, hhi⟩ := hlh rfl
    have loop : ∀ (l h : jv) (lB hB : Nat), lA = some lB → hA = some hB → lo = some l → hi = some h → isV (xG X) w lB l → isV (xG X) w hB h → ∀ (q i k : Nat) (g : Nat → jv) (wi : jw) (fi : Nat → Option Nat), rc + 1 ≤ i + q → i ≤ rc → dct rf l h i = some (k, g) → k ≤ 100 → jh wi a (eO cC (kFs ty ra (nI rc) tb (bI true) kr km lA hA ea ec sa)) → jh wi sa (eR (xG X) 5 100 fi) → (∀ j, j < k → ∃ b, fi j = some b ∧ isV (xG X) w b (g j)) → KA w wi [sa] → J X (4, 99) (jQ X (fun r w' => match dcr true lo hi rf rc with | none => r = some (.int 0) ∧ (∃ f', jh w' sa (eR (xG X) 5 100 f')) ∧ KA w w' [sa] | some (k, g) => r = some (.int 1) ∧ k ≤ 100 ∧ (∃ f', jh w' sa (eR (xG X) 5 100 f') ∧ ∀ j, j < k → ∃ b, f' j = some b ∧ isV (xG X) w b (g j)) ∧ jh w' a (eO cC (kFs ty ra (nI rc) tb 1 kr km lA hA sa (nI k) ea)) ∧ KA w w' [a, sa]) 0 0) wi 0 0 27 [(0, .ref a), (1, .int (nI k)), (2, .int (nI i))] [] := by
      intro l h lB hB elA ehA elo ehi vl vh q
      induction q with
      | zero => intro i k g wi fi h1 h2; omega
      | succ q ih =>
        intro i k g wi fi hi1 hi2 hd hk hai hsi hgi hKi
        have hri := hKi _ _ (by simp; exact hne2) hra
        have vl' := isV_keep hKi hM vl
        have vh' := isV_keep hKi hM vh
        refine j_iload_n (i := 2) (t := 28) C d_C_learnDictionary_27 rfl rfl rfl ?_
        refine j_aload_n (i := 0) (t := 29) C d_C_learnDictionary_28 rfl rfl (by first | exact jrv_r | exact jrv_n | exact jrv_f) rfl ?_
        refine j_get (t := 32) C fl_C_17 d_C_learnDictionary_29 (by assumption) (by first | rfl | assumption) rfl ?_
        refine j_icmp_ge (tgt := 108) (t := 35) C d_C_learnDictionary_32 (by decide) rfl (fun h32 => ?_) (fun h32 => ?_)
        · have hie : i = rc := by rw [nI_leI (by omega) (by omega)] at h32; omega
          subst hie
          refine j_iload_n (i := 1) (t := 109) C d_C_learnDictionary_108 rfl rfl rfl ?_
          refine j_if_ne (tgt := 114) (t := 112) C d_C_learnDictionary_109 (by decide) rfl (fun h109 => ?_) (fun h109 => ?_)
          · refine j_aload_n (i := 0) (t := 115) C d_C_learnDictionary_114 rfl rfl (by first | exact jrv_r | exact jrv_n | exact jrv_f) rfl ?_
            refine j_get (t := 118) C fl_C_41 d_C_learnDictionary_115 (by assumption) (by first | rfl | assumption) rfl ?_
            refine j_astore_n (i := 2) (t := 119) (lv' := [(0, _), (1, _), (2, _)]) C d_C_learnDictionary_118 rfl (by first | exact jrv_r | exact jrv_n | exact jrv_f) (by decide) (by decide) rfl rfl ?_
            refine j_aload_n (i := 0) (t := 120) C d_C_learnDictionary_119 rfl rfl (by first | exact jrv_r | exact jrv_n | exact jrv_f) rfl ?_
            refine j_aload_n (i := 0) (t := 121) C d_C_learnDictionary_120 rfl rfl (by first | exact jrv_r | exact jrv_n | exact jrv_f) rfl ?_
            refine j_get (t := 124) C fl_C_47 d_C_learnDictionary_121 (by assumption) (by first | rfl | assumption) rfl ?_
            refine j_putW (t := 127) C fp_C_41 d_C_learnDictionary_124 (by assumption) (by first | rfl | exact jnar_rf) (by first | rfl | exact jfit_rf) (by first | exact Nat.le_of_ble_eq_true rfl | (simp only [List.length_set]; omega)) rfl (fun w124 e124 h124 f124 => ?_)
            refine j_aload_n (i := 0) (t := 128) C d_C_learnDictionary_127 rfl rfl (by first | exact jrv_r | exact jrv_n | exact jrv_f) rfl ?_
            refine j_iload_n (i := 1) (t := 129) C d_C_learnDictionary_128 rfl rfl rfl ?_
            refine j_putW (t := 132) C fp_C_44 d_C_learnDictionary_129 (by assumption) (by first | rfl | exact jnar_rf) (by first | rfl | exact jfit_rf) (by first | exact Nat.le_of_ble_eq_true rfl | (simp only [List.length_set]; omega)) rfl (fun w129 e129 h129 f129 => ?_)
            refine j_aload_n (i := 0) (t := 133) C d_C_learnDictionary_132 rfl rfl (by first | exact jrv_r | exact jrv_n | exact jrv_f) rfl ?_
            refine j_aload_n (i := 2) (t := 134) C d_C_learnDictionary_133 rfl rfl (by first | exact jrv_r | exact jrv_n | exact jrv_f) rfl ?_
            refine j_putW (t := 137) C fp_C_47 d_C_learnDictionary_134 (by assumption) (by first | rfl | exact jnar_rf) (by first | rfl | exact jfit_rf) (by first | exact Nat.le_of_ble_eq_true rfl | (simp only [List.length_set]; omega)) rfl (fun w134 e134 h134 f134 => ?_)
            refine j_iconst (x := 1) (t := 138) C d_C_learnDictionary_137 rfl rfl ?_
            exact j_iret C d_C_learnDictionary_138 rfl (by
          have hk0 : 0 < k := Nat.pos_of_ne_zero (fun z => h109 (by rw [z]; rfl))
          rw [elo, ehi, dcr_s hk0 hd]
          exact ⟨rfl, hk, ⟨fi, f134 _ _ hne.symm (f129 _ _ hne.symm (f124 _ _ hne.symm hsi)), hgi⟩, h134, (((hKi.mono (by simp)).put f124 (by simp)).put f129 (by simp)).put f134 (by simp)⟩) (by omega) (by omega)
          · refine j_iconst (x := 0) (t := 113) C d_C_learnDictionary_112 rfl rfl ?_
            exact j_iret C d_C_learnDictionary_113 rfl (by
          have hk0 : k = 0 := by rcases Nat.eq_zero_or_pos k with q | q; exact q; exact absurd h109 (nI_ne0 q (by omega))
          subst hk0
          rw [elo, ehi, dcr_0 hd]
          exact ⟨rfl, ⟨fi, hsi⟩, hKi⟩) (by omega) (by omega)
        · rw [nI_leI (by omega) (by omega)] at h32
          have hin : vp_in (nI i) 1000 := vp_in_nI (by omega) (by omega)
          have hfi := hf i (by omega)
          refine j_aload_n (i := 0) (t := 36) C d_C_learnDictionary_35 rfl rfl (by first | exact jrv_r | exact jrv_n | exact jrv_f) rfl ?_
          refine j_get (t := 39) C fl_C_11 d_C_learnDictionary_36 (by assumption) (by first | rfl | assumption) rfl ?_
          refine j_iload_n (i := 2) (t := 40) C d_C_learnDictionary_39 rfl rfl rfl ?_
          refine j_aaload (t := 41) C d_C_learnDictionary_40 (by assumption) (by rfl) (by assumption) rfl ?_
          rw [nI_clamp (by omega)]
          refine j_astore_n (i := 3) (t := 42) (lv' := [(0, _), (1, _), (2, _), (3, _)]) C d_C_learnDictionary_41 rfl (by first | exact jrv_r | exact jrv_n | exact jrv_f) (by decide) (by decide) rfl rfl ?_
          refine j_aload_n (i := 3) (t := 43) C d_C_learnDictionary_42 rfl rfl (by first | exact jrv_r | exact jrv_n | exact jrv_f) rfl ?_
          refine j_ifnull (tgt := 102) (t := 46) C d_C_learnDictionary_43 (by decide) rfl (fun h43 => ?_) (fun a43 h43 => ?_)
          · refine j_iinc (y := _ + 1) (t := 105) (lv' := [(0, _), (1, _), (2, _), (3, _)]) C d_C_learnDictionary_102 rfl rfl (by decide) (by decide) rfl rfl ?_
            refine j_goto (tgt := 27) C d_C_learnDictionary_105 (by decide) ?_
            refine j_pick [0, 1, 2] rfl ?_
            simp only [nI_1]
            first | exact ih (i + 1) k g _ fi (by omega) (by omega) (dct_no hd (isO_none (by rw [h43] at hfi; exact hfi))) hk hai hsi hgi hKi | exact ih (i + 1) k g _ fi (by omega) (by omega) (dct_in hd hrx h56) hk hai hsi hgi hKi | exact ih (i + 1) (k + 1) (va_up g k x) w98 _ (by omega) (by omega) (dct_add hd hrx h56 hbad) (by omega) (f98 _ _ hne hai) h98 (dict_fill hgi hx0) (hKi.put f98 (by simp))
          · rw [h43] at hfi
            obtain ⟨x, hrx, hx0⟩ := isO_some hfi
            have hx := isV_keep hKi hM hx0
            obtain ⟨tx, hxo, -⟩ := id hx
            refine j_lv (lv' := [(0, .ref a), (1, .int (nI k)), (2, .int (nI i)), (3, .ref a43)]) (by rw [h43]; rfl) rfl ?_
            refine j_aload_n (i := 3) (t := 47) C d_C_learnDictionary_46 rfl rfl (by first | exact jrv_r | exact jrv_n | exact jrv_f) rfl ?_
            refine j_aload_n (i := 0) (t := 48) C d_C_learnDictionary_47 rfl rfl (by first | exact jrv_r | exact jrv_n | exact jrv_f) rfl ?_
            refine j_get (t := 51) C fl_C_47 d_C_learnDictionary_48 (by assumption) (by first | rfl | assumption) rfl ?_
            refine j_iconst (x := 0) (t := 52) C d_C_learnDictionary_51 rfl rfl ?_
            refine j_iload_n (i := 1) (t := 53) C d_C_learnDictionary_52 rfl rfl rfl ?_
            rw [← nI_0]
            refine j_callSN (As := [_, _, _, _]) (t := 56) C (c_T_isAmong _ a43 sa x 100 fi g 0 k) d_C_learnDictionary_53 jb_T_isAmong ml_C_61 st_T_isAmong rfl (Nat.le_of_ble_eq_true rfl) (by decide) (by omega) (by omega) (⟨rfl, hx, hsi, by omega, by omega, fun j _ hj => by obtain ⟨b, hb1, hb2⟩ := hgi j (by omega); exact ⟨b, hb1, isV_keep hKi hM hb2⟩⟩) rfl (fun r53 w53 p53 => ?_)
            obtain ⟨rfl, rfl⟩ := p53
            dsimp only [jst]
            refine j_if_eq (tgt := 62) (t := 59) C d_C_learnDictionary_56 (by decide) rfl (fun h56 => ?_) (fun h56 => ?_)
            · rw [bI_0] at h56
              refine j_iload_n (i := 1) (t := 63) C d_C_learnDictionary_62 rfl rfl rfl ?_
              refine j_bipush (x := 100) (t := 65) C d_C_learnDictionary_63 rfl rfl ?_
              refine j_icmp_ge (tgt := 90) (t := 68) C d_C_learnDictionary_65 (by decide) rfl (fun h65 => ?_) (fun h65 => ?_)
              · refine j_iconst (x := 0) (t := 91) C d_C_learnDictionary_90 rfl rfl ?_
                exact j_iret C d_C_learnDictionary_91 rfl (by
            have hbad : 100 ≤ k ∨ vc x l < 0 ∨ 0 < vc x h := by first | exact Or.inr (Or.inr ((sg_gt s84).mp (by simpa using h87))) | exact Or.inr (Or.inl (s73.1.mp h76)) | exact Or.inl (Nat.le_of_not_lt (fun z => absurd h65 (nI_ge (b := 100) z (by decide))))
            have hdn := dct_none (dct_bad hd hrx h56 hbad) (rc - (i + 1))
            rw [show i + 1 + (rc - (i + 1)) = rc by omega] at hdn
            rw [elo, ehi, dcr_n hdn]
            exact ⟨rfl, ⟨fi, hsi⟩, hKi⟩) (by omega) (by omega)
              · have hk2 : k < 100 := by rcases Nat.lt_or_ge k 100 with q | q; exact q; exact absurd (nI_le (a := 100) q (by omega)) h65
                refine j_aload_n (i := 3) (t := 69) C d_C_learnDictionary_68 rfl rfl (by first | exact jrv_r | exact jrv_n | exact jrv_f) rfl ?_
                refine j_aload_n (i := 0) (t := 70) C d_C_learnDictionary_69 rfl rfl (by first | exact jrv_r | exact jrv_n | exact jrv_f) rfl ?_
                refine j_get (t := 73) C fl_C_34 d_C_learnDictionary_70 (by assumption) (by first | rfl | assumption) rfl ?_
                refine j_lv (st' := [.ref lB, .ref a43]) rfl (by rw [elA]; rfl) ?_
                refine j_callV (As := [_]) (t := 76) C (c_V_order _ a43 lB x l) d_C_learnDictionary_73 jb_V_order ml_C_57 jv_V_order (by assumption) rfl rfl rfl (Nat.le_of_ble_eq_true rfl) (by decide) (by omega) (by omega) (⟨rfl, hx, vl'⟩) rfl (fun r73 w73 p73 => ?_)
                obtain ⟨rfl, i73, rfl, s73⟩ := p73
                dsimp only [jst]
                refine j_if_lt (tgt := 90) (t := 79) C d_C_learnDictionary_76 (by decide) rfl (fun h76 => ?_) (fun h76 => ?_)
                · refine j_iconst (x := 0) (t := 91) C d_C_learnDictionary_90 rfl rfl ?_
                  exact j_iret C d_C_learnDictionary_91 rfl (by
            have hbad : 100 ≤ k ∨ vc x l < 0 ∨ 0 < vc x h := by first | exact Or.inr (Or.inr ((sg_gt s84).mp (by simpa using h87))) | exact Or.inr (Or.inl (s73.1.mp h76)) | exact Or.inl (Nat.le_of_not_lt (fun z => absurd h65 (nI_ge (b := 100) z (by decide))))
            have hdn := dct_none (dct_bad hd hrx h56 hbad) (rc - (i + 1))
            rw [show i + 1 + (rc - (i + 1)) = rc by omega] at hdn
            rw [elo, ehi, dcr_n hdn]
            exact ⟨rfl, ⟨fi, hsi⟩, hKi⟩) (by omega) (by omega)
                · refine j_aload_n (i := 3) (t := 80) C d_C_learnDictionary_79 rfl rfl (by first | exact jrv_r | exact jrv_n | exact jrv_f) rfl ?_
                  refine j_aload_n (i := 0) (t := 81) C d_C_learnDictionary_80 rfl rfl (by first | exact jrv_r | exact jrv_n | exact jrv_f) rfl ?_
                  refine j_get (t := 84) C fl_C_38 d_C_learnDictionary_81 (by assumption) (by first | rfl | assumption) rfl ?_
                  refine j_lv (st' := [.ref hB, .ref a43]) rfl (by rw [ehA]; rfl) ?_
                  refine j_callV (As := [_]) (t := 87) C (c_V_order _ a43 hB x h) d_C_learnDictionary_84 jb_V_order ml_C_57 jv_V_order (by assumption) rfl rfl rfl (Nat.le_of_ble_eq_true rfl) (by decide) (by omega) (by omega) (⟨rfl, hx, vh'⟩) rfl (fun r84 w84 p84 => ?_)
                  obtain ⟨rfl, i84, rfl, s84⟩ := p84
                  dsimp only [jst]
                  refine j_if_le (tgt := 92) (t := 90) C d_C_learnDictionary_87 (by decide) rfl (fun h87 => ?_) (fun h87 => ?_)
                  · have hbad : ¬ (100 ≤ k ∨ vc x l < 0 ∨ 0 < vc x h) := by
                      rintro (z | z | z)
                      · omega
                      · exact absurd (s73.1.mpr z) (by simpa using h76)
                      · exact absurd ((sg_gt s84).mpr z) (by simpa using h87)
                    have hin3 : vp_in (nI k) 100 := vp_in_nI hk2 (by omega)
                    refine j_aload_n (i := 0) (t := 93) C d_C_learnDictionary_92 rfl rfl (by first | exact jrv_r | exact jrv_n | exact jrv_f) rfl ?_
                    refine j_get (t := 96) C fl_C_47 d_C_learnDictionary_93 (by assumption) (by first | rfl | assumption) rfl ?_
                    refine j_iload_n (i := 1) (t := 97) C d_C_learnDictionary_96 rfl rfl rfl ?_
                    refine j_aload_n (i := 3) (t := 98) C d_C_learnDictionary_97 rfl rfl (by first | exact jrv_r | exact jrv_n | exact jrv_f) rfl ?_
                    refine j_lv (st' := [va_rf (some a43), .int (nI k), .ref sa]) rfl rfl ?_
                    refine j_aastoreW (t := 99) C d_C_learnDictionary_98 (by assumption) (fun b hb => by cases hb; exact ⟨_, hxo⟩) rfl rfl (by assumption) rfl (fun w98 e98 h98 f98 => ?_)
                    rw [nI_clamp (by omega)] at h98
                    refine j_iinc (y := _ + 1) (t := 102) (lv' := [(0, _), (1, _), (2, _), (3, _)]) C d_C_learnDictionary_99 rfl rfl (by decide) (by decide) rfl rfl ?_
                    refine j_iinc (y := _ + 1) (t := 105) (lv' := [(0, _), (1, _), (2, _), (3, _)]) C d_C_learnDictionary_102 rfl rfl (by decide) (by decide) rfl rfl ?_
                    refine j_goto (tgt := 27) C d_C_learnDictionary_105 (by decide) ?_
                    refine j_pick [0, 1, 2] rfl ?_
                    simp only [nI_1]
                    first | exact ih (i + 1) k g _ fi (by omega) (by omega) (dct_no hd (isO_none (by rw [h43] at hfi; exact hfi))) hk hai hsi hgi hKi | exact ih (i + 1) k g _ fi (by omega) (by omega) (dct_in hd hrx h56) hk hai hsi hgi hKi | exact ih (i + 1) (k + 1) (va_up g k x) w98 _ (by omega) (by omega) (dct_add hd hrx h56 hbad) (by omega) (f98 _ _ hne hai) h98 (dict_fill hgi hx0) (hKi.put f98 (by simp))
                  · refine j_iconst (x := 0) (t := 91) C d_C_learnDictionary_90 rfl rfl ?_
                    exact j_iret C d_C_learnDictionary_91 rfl (by
            have hbad : 100 ≤ k ∨ vc x l < 0 ∨ 0 < vc x h := by first | exact Or.inr (Or.inr ((sg_gt s84).mp (by simpa using h87))) | exact Or.inr (Or.inl (s73.1.mp h76)) | exact Or.inl (Nat.le_of_not_lt (fun z => absurd h65 (nI_ge (b := 100) z (by decide))))
            have hdn := dct_none (dct_bad hd hrx h56 hbad) (rc - (i + 1))
            rw [show i + 1 + (rc - (i + 1)) = rc by omega] at hdn
            rw [elo, ehi, dcr_n hdn]
            exact ⟨rfl, ⟨fi, hsi⟩, hKi⟩) (by omega) (by omega)
            · rw [bI_0, Bool.not_eq_false] at h56
              refine j_goto (tgt := 102) C d_C_learnDictionary_59 (by decide) ?_
              refine j_iinc (y := _ + 1) (t := 105) (lv' := [(0, _), (1, _), (2, _), (3, _)]) C d_C_learnDictionary_102 rfl rfl (by decide) (by decide) rfl rfl ?_
              refine j_goto (tgt := 27) C d_C_learnDictionary_105 (by decide) ?_
              refine j_pick [0, 1, 2] rfl ?_
              simp only [nI_1]
              first | exact ih (i + 1) k g _ fi (by omega) (by omega) (dct_no hd (isO_none (by rw [h43] at hfi; exact hfi))) hk hai hsi hgi hKi | exact ih (i + 1) k g _ fi (by omega) (by omega) (dct_in hd hrx h56) hk hai hsi hgi hKi | exact ih (i + 1) (k + 1) (va_up g k x) w98 _ (by omega) (by omega) (dct_add hd hrx h56 hbad) (by omega) (f98 _ _ hne hai) h98 (dict_fill hgi hx0) (hKi.put f98 (by simp))
    refine j_aload_n (i := 0) (t := 1) C d_C_learnDictionary_0 rfl rfl (by first | exact jrv_r | exact jrv_n | exact jrv_f) rfl ?_
    refine j_get (t := 4) C fl_C_24 d_C_learnDictionary_1 (by assumption) (by first | rfl | assumption) rfl ?_
    refine j_if_eq (tgt := 21) (t := 7) C d_C_learnDictionary_4 (by decide) rfl (fun h4 => absurd h4 (by decide)) (fun h4 => ?_)
    refine j_aload_n (i := 0) (t := 8) C d_C_learnDictionary_7 rfl rfl (by first | exact jrv_r | exact jrv_n | exact jrv_f) rfl ?_
    refine j_get (t := 11) C fl_C_34 d_C_learnDictionary_8 (by assumption) (by first | rfl | assumption) rfl ?_
    refine j_ifnull (tgt := 21) (t := 14) C d_C_learnDictionary_11 (by decide) rfl (fun h11 => ?_) (fun a11 h11 => ?_)
    · refine j_iconst (x := 0) (t := 22) C d_C_learnDictionary_21 rfl rfl ?_
      exact j_iret C d_C_learnDictionary_22 rfl (by first | (rw [dcr_l (isO_none (by rw [h11] at hlo; exact hlo))]; exact ⟨rfl, ⟨_, hsa⟩, KA.rf⟩) | (rw [dcr_h (isO_none (by rw [h18] at hhi; exact hhi))]; exact ⟨rfl, ⟨_, hsa⟩, KA.rf⟩)) (by omega) (by omega)
    · refine j_aload_n (i := 0) (t := 15) C d_C_learnDictionary_14 rfl rfl (by first | exact jrv_r | exact jrv_n | exact jrv_f) rfl ?_
      refine j_get (t := 18) C fl_C_38 d_C_learnDictionary_15 (by assumption) (by first | rfl | assumption) rfl ?_
      refine j_ifnonnull (tgt := 23) (t := 21) C d_C_learnDictionary_18 (by decide) rfl (fun a18 h18 => ?_) (fun h18 => ?_)
      · refine j_iconst (x := 0) (t := 24) C d_C_learnDictionary_23 rfl rfl ?_
        refine j_istore_n (i := 1) (t := 25) (lv' := [(0, _), (1, _)]) C d_C_learnDictionary_24 rfl (by decide) (by decide) rfl rfl ?_
        refine j_iconst (x := 0) (t := 26) C d_C_learnDictionary_25 rfl rfl ?_
        refine j_istore_n (i := 2) (t := 27) (lv' := [(0, _), (1, _), (2, _)]) C d_C_learnDictionary_26 rfl (by decide) (by decide) rfl rfl ?_
        have hlo2 := hlo
        rw [h11] at hlo2
        obtain ⟨l2, elo, vl⟩ := isO_some hlo2
        have hhi2 := hhi
        rw [h18] at hhi2
        obtain ⟨h2, ehi, vh⟩ := isO_some hhi2
        exact loop l2 h2 _ _ h11 h18 elo ehi vl vh (rc + 1) 0 0 (fun _ => (0, 0, [])) w fs0 (by omega) (Nat.zero_le _) rfl (by omega) ha hsa (fun j hj => by omega) KA.rf
      · refine j_iconst (x := 0) (t := 22) C d_C_learnDictionary_21 rfl rfl ?_
        exact j_iret C d_C_learnDictionary_22 rfl (by first | (rw [dcr_l (isO_none (by rw [h11] at hlo; exact hlo))]; exact ⟨rfl, ⟨_, hsa⟩, KA.rf⟩) | (rw [dcr_h (isO_none (by rw [h18] at hhi; exact hhi))]; exact ⟨rfl, ⟨_, hsa⟩, KA.rf⟩)) (by omega) (by omega)
set_option maxHeartbeats 4000000 in
set_option maxRecDepth 100000 in
/-- Column(type) -/
theorem c_C_init (l : Launch) (a : Nat) (ty : Int32) : MC l y_C_init b_C_init 2 (none) 1 3 1200
    (fun G w av => av = [.ref a, .int ty] ∧ jh w a (eO cC [.int 0, .null, .int 0, .int 0, .int 0, .int 0, .int 0, .null, .null, .null, .int 0, .null]))
    (fun G w av r w' => r = none ∧ ∃ ra ea sa, (ra ∉ w.1 ∧ ea ∉ w.1 ∧ sa ∉ w.1) ∧ (ra ≠ ea ∧ ra ≠ sa ∧ ea ≠ sa) ∧ jh w' a (eO cC (kFs ty ra 0 0 0 0 0 none none ea 0 sa)) ∧ jh w' ra (eR G 5 1000 (fun _ => none)) ∧ jh w' ea (eR G 5 100 (fun _ => none)) ∧ jh w' sa (eR G 5 100 (fun _ => none)) ∧ KA w w' [a]) := by
  refine MC.of 99 (by decide) ?_
  intro X w av hl C hnm hp
  obtain ⟨rfl, ha⟩ := hp
  refine ⟨[(0, _), (1, _)], rfl, Nat.le_of_ble_eq_true rfl, rfl, ?_⟩
  refine j_aload_n (i := 0) (t := 1) C d_C_init_0 rfl rfl (by first | exact jrv_r | exact jrv_n | exact jrv_f) rfl ?_
  refine j_oinit (t := 4) C d_C_init_1 ml_C_3 im_O cd_O (by decide) (Nat.le_of_ble_eq_true rfl) rfl ?_
  refine j_aload_n (i := 0) (t := 5) C d_C_init_4 rfl rfl (by first | exact jrv_r | exact jrv_n | exact jrv_f) rfl ?_
  refine j_sipush (x := 1000) (t := 8) C d_C_init_5 rfl rfl ?_
  refine j_newRW (N := 1000) (tk := 5) (t := 11) C d_C_init_8 cl_C_9 (by decide +kernel) rfl rfl (by decide) (by omega) (by omega) rfl (fun a8 w8 n8 e8 h8 f8 => ?_)
  have ha8 := f8 _ _ ha
  have na8 : a ≠ a8 := jh_ne ha8 h8 (by simp)
  refine j_putFW (t := 14) C hnm fp_C_11 d_C_init_11 (by assumption) (by first | rfl | exact jnar_rf) (by first | rfl | exact jfit_rf) (by first | exact Nat.le_of_ble_eq_true rfl | (simp only [List.length_set]; omega)) rfl (fun w11 e11 h11 f11 => ?_)
  have r8_11 := f11 _ _ na8.symm h8
  refine j_aload_n (i := 0) (t := 15) C d_C_init_14 rfl rfl (by first | exact jrv_r | exact jrv_n | exact jrv_f) rfl ?_
  refine j_iconst (x := 0) (t := 16) C d_C_init_15 rfl rfl ?_
  refine j_putW (t := 19) C fp_C_17 d_C_init_16 (by assumption) (by first | rfl | exact jnar_rf) (by first | rfl | exact jfit_rf) (by first | exact Nat.le_of_ble_eq_true rfl | (simp only [List.length_set]; omega)) rfl (fun w16 e16 h16 f16 => ?_)
  have r8_16 := f16 _ _ na8.symm r8_11
  refine j_aload_n (i := 0) (t := 20) C d_C_init_19 rfl rfl (by first | exact jrv_r | exact jrv_n | exact jrv_f) rfl ?_
  refine j_iconst (x := 0) (t := 21) C d_C_init_20 rfl rfl ?_
  refine j_putW (t := 24) C fp_C_21 d_C_init_21 (by assumption) (by first | rfl | exact jnar_rf) (by first | rfl | exact jfit_rf) (by first | exact Nat.le_of_ble_eq_true rfl | (simp only [List.length_set]; omega)) rfl (fun w21 e21 h21 f21 => ?_)
  have r8_21 := f21 _ _ na8.symm r8_16
  refine j_aload_n (i := 0) (t := 25) C d_C_init_24 rfl rfl (by first | exact jrv_r | exact jrv_n | exact jrv_f) rfl ?_
  refine j_iconst (x := 0) (t := 26) C d_C_init_25 rfl rfl ?_
  refine j_putW (t := 29) C fp_C_24 d_C_init_26 (by assumption) (by first | rfl | exact jnar_rf) (by first | rfl | exact jfit_rf) (by first | exact Nat.le_of_ble_eq_true rfl | (simp only [List.length_set]; omega)) rfl (fun w26 e26 h26 f26 => ?_)
  have r8_26 := f26 _ _ na8.symm r8_21
  refine j_aload_n (i := 0) (t := 30) C d_C_init_29 rfl rfl (by first | exact jrv_r | exact jrv_n | exact jrv_f) rfl ?_
  refine j_iconst (x := 0) (t := 31) C d_C_init_30 rfl rfl ?_
  refine j_putW (t := 34) C fp_C_28 d_C_init_31 (by assumption) (by first | rfl | exact jnar_rf) (by first | rfl | exact jfit_rf) (by first | exact Nat.le_of_ble_eq_true rfl | (simp only [List.length_set]; omega)) rfl (fun w31 e31 h31 f31 => ?_)
  have r8_31 := f31 _ _ na8.symm r8_26
  refine j_aload_n (i := 0) (t := 35) C d_C_init_34 rfl rfl (by first | exact jrv_r | exact jrv_n | exact jrv_f) rfl ?_
  refine j_iconst (x := 0) (t := 36) C d_C_init_35 rfl rfl ?_
  refine j_putW (t := 39) C fp_C_31 d_C_init_36 (by assumption) (by first | rfl | exact jnar_rf) (by first | rfl | exact jfit_rf) (by first | exact Nat.le_of_ble_eq_true rfl | (simp only [List.length_set]; omega)) rfl (fun w36 e36 h36 f36 => ?_)
  have r8_36 := f36 _ _ na8.symm r8_31
  refine j_aload_n (i := 0) (t := 40) C d_C_init_39 rfl rfl (by first | exact jrv_r | exact jrv_n | exact jrv_f) rfl ?_
  refine j_null (t := 41) C d_C_init_40 rfl ?_
  refine j_putW (t := 44) C fp_C_34 d_C_init_41 (by assumption) (by first | rfl | exact jnar_rf) (by first | rfl | exact jfit_rf) (by first | exact Nat.le_of_ble_eq_true rfl | (simp only [List.length_set]; omega)) rfl (fun w41 e41 h41 f41 => ?_)
  have r8_41 := f41 _ _ na8.symm r8_36
  refine j_aload_n (i := 0) (t := 45) C d_C_init_44 rfl rfl (by first | exact jrv_r | exact jrv_n | exact jrv_f) rfl ?_
  refine j_null (t := 46) C d_C_init_45 rfl ?_
  refine j_putW (t := 49) C fp_C_38 d_C_init_46 (by assumption) (by first | rfl | exact jnar_rf) (by first | rfl | exact jfit_rf) (by first | exact Nat.le_of_ble_eq_true rfl | (simp only [List.length_set]; omega)) rfl (fun w46 e46 h46 f46 => ?_)
  have r8_46 := f46 _ _ na8.symm r8_41
  refine j_aload_n (i := 0) (t := 50) C d_C_init_49 rfl rfl (by first | exact jrv_r | exact jrv_n | exact jrv_f) rfl ?_
  refine j_bipush (x := 100) (t := 52) C d_C_init_50 rfl rfl ?_
  refine j_newRW (N := 100) (tk := 5) (t := 55) C d_C_init_52 cl_C_9 (by decide +kernel) rfl rfl (by decide) (by omega) (by omega) rfl (fun a52 w52 n52 e52 h52 f52 => ?_)
  have ha52 := f52 _ _ h46
  have r8_52 := f52 _ _ r8_46
  have na52 : a ≠ a52 := jh_ne ha52 h52 (by simp)
  refine j_putW (t := 58) C fp_C_41 d_C_init_55 (by assumption) (by first | rfl | exact jnar_rf) (by first | rfl | exact jfit_rf) (by first | exact Nat.le_of_ble_eq_true rfl | (simp only [List.length_set]; omega)) rfl (fun w55 e55 h55 f55 => ?_)
  have r8_55 := f55 _ _ na8.symm r8_52
  have r52_55 := f55 _ _ na52.symm h52
  refine j_aload_n (i := 0) (t := 59) C d_C_init_58 rfl rfl (by first | exact jrv_r | exact jrv_n | exact jrv_f) rfl ?_
  refine j_iconst (x := 0) (t := 60) C d_C_init_59 rfl rfl ?_
  refine j_putW (t := 63) C fp_C_44 d_C_init_60 (by assumption) (by first | rfl | exact jnar_rf) (by first | rfl | exact jfit_rf) (by first | exact Nat.le_of_ble_eq_true rfl | (simp only [List.length_set]; omega)) rfl (fun w60 e60 h60 f60 => ?_)
  have r8_60 := f60 _ _ na8.symm r8_55
  have r52_60 := f60 _ _ na52.symm r52_55
  refine j_aload_n (i := 0) (t := 64) C d_C_init_63 rfl rfl (by first | exact jrv_r | exact jrv_n | exact jrv_f) rfl ?_
  refine j_bipush (x := 100) (t := 66) C d_C_init_64 rfl rfl ?_
  refine j_newRW (N := 100) (tk := 5) (t := 69) C d_C_init_66 cl_C_9 (by decide +kernel) rfl rfl (by decide) (by omega) (by omega) rfl (fun a66 w66 n66 e66 h66 f66 => ?_)
  have ha66 := f66 _ _ h60
  have r8_66 := f66 _ _ r8_60
  have r52_66 := f66 _ _ r52_60
  have na66 : a ≠ a66 := jh_ne ha66 h66 (by simp)
  refine j_putW (t := 72) C fp_C_47 d_C_init_69 (by assumption) (by first | rfl | exact jnar_rf) (by first | rfl | exact jfit_rf) (by first | exact Nat.le_of_ble_eq_true rfl | (simp only [List.length_set]; omega)) rfl (fun w69 e69 h69 f69 => ?_)
  have r8_69 := f69 _ _ na8.symm r8_66
  have r52_69 := f69 _ _ na52.symm r52_66
  have r66_69 := f69 _ _ na66.symm h66
  refine j_aload_n (i := 0) (t := 73) C d_C_init_72 rfl rfl (by first | exact jrv_r | exact jrv_n | exact jrv_f) rfl ?_
  refine j_iload_n (i := 1) (t := 74) C d_C_init_73 rfl rfl rfl ?_
  refine j_putFW (t := 77) C hnm fp_C_50 d_C_init_74 (by assumption) (by first | rfl | exact jnar_rf) (by first | rfl | exact jfit_rf) (by first | exact Nat.le_of_ble_eq_true rfl | (simp only [List.length_set]; omega)) rfl (fun w74 e74 h74 f74 => ?_)
  have r8_74 := f74 _ _ na8.symm r8_69
  have r52_74 := f74 _ _ na52.symm r52_69
  have r66_74 := f74 _ _ na66.symm r66_69
  simp only [mem_u e11, mem_u e16, mem_u e21, mem_u e26, mem_u e31, mem_u e36, mem_u e41, mem_u e46, mem_u e55, mem_u e60, mem_u e69, mem_u e74, mem_n e8, mem_n e52, mem_n e66, List.mem_append, List.mem_singleton, not_or] at n8 n52 n66
  exact j_vret C d_C_init_77 (⟨rfl, a8, a52, a66, ⟨n8, n52.1, n66.1.1⟩, ⟨fun z => n52.2 z.symm, fun z => n66.1.2 z.symm, fun z => n66.2 z.symm⟩, h74, r8_74, r52_74, r66_74, (((((((((((((((KA.rf.new f8).put f11 (by simp)).put f16 (by simp)).put f21 (by simp)).put f26 (by simp)).put f31 (by simp)).put f36 (by simp)).put f41 (by simp)).put f46 (by simp)).new f52).put f55 (by simp)).put f60 (by simp)).new f66).put f69 (by simp)).put f74 (by simp))⟩) (by omega) (by omega)

set_option maxHeartbeats 4000000 in
set_option maxRecDepth 100000 in
/-- Step(..) -/
theorem c_S_init (l : Launch) (a : Nat) (kd : Int32) (c1 : Option Nat) (op : Int32) (c2 : Option Nat) (al : Nat) (fi mn : Int32) : MC l y_S_init b_S_init 8 (none) 1 0 0
    (fun G w av => av = [.ref a, .int kd, va_rf c1, .int op, va_rf c2, .ref al, .int fi, .int mn] ∧ jh w a (eO cS [.int 0, .null, .int 0, .null, .null, .int 0, .int 0]))
    (fun G w av r w' => r = none ∧ jh w' a (eO cS [.int kd, va_rf c1, .int op, va_rf c2, .ref al, .int fi, .int mn]) ∧ KA w w' [a]) := by
  refine MC.of 99 (by decide) ?_
  intro X w av hl C hnm hp
  obtain ⟨rfl, ha⟩ := hp
  refine ⟨[(0, .ref a), (1, .int kd), (2, va_rf c1), (3, .int op), (4, va_rf c2), (5, .ref al), (6, .int fi), (7, .int mn)], by cases c1 <;> cases c2 <;> rfl, by cases c1 <;> cases c2 <;> exact Nat.le_of_ble_eq_true rfl, by cases c1 <;> cases c2 <;> rfl, ?_⟩
  refine j_aload_n (i := 0) (t := 1) C d_S_init_0 rfl rfl (by first | exact jrv_r | exact jrv_n | exact jrv_f) rfl ?_
  refine j_oinit (t := 4) C d_S_init_1 ml_S_3 im_O cd_O (by decide) (Nat.le_of_ble_eq_true rfl) rfl ?_
  refine j_aload_n (i := 0) (t := 5) C d_S_init_4 rfl rfl (by first | exact jrv_r | exact jrv_n | exact jrv_f) rfl ?_
  refine j_iload_n (i := 1) (t := 6) C d_S_init_5 rfl rfl rfl ?_
  refine j_putFW (t := 9) C hnm fp_S_9 d_S_init_6 (by assumption) (by first | rfl | exact jnar_rf) (by first | rfl | exact jfit_rf) (by first | exact Nat.le_of_ble_eq_true rfl | (simp only [List.length_set]; omega)) rfl (fun w6 e6 h6 f6 => ?_)
  refine j_aload_n (i := 0) (t := 10) C d_S_init_9 rfl rfl (by first | exact jrv_r | exact jrv_n | exact jrv_f) rfl ?_
  refine j_aload_n (i := 2) (t := 11) C d_S_init_10 rfl rfl (by first | exact jrv_r | exact jrv_n | exact jrv_f) rfl ?_
  refine j_putFW (t := 14) C hnm fp_S_15 d_S_init_11 (by assumption) (by first | rfl | exact jnar_rf) (by first | rfl | exact jfit_rf) (by first | exact Nat.le_of_ble_eq_true rfl | (simp only [List.length_set]; omega)) rfl (fun w11 e11 h11 f11 => ?_)
  refine j_aload_n (i := 0) (t := 15) C d_S_init_14 rfl rfl (by first | exact jrv_r | exact jrv_n | exact jrv_f) rfl ?_
  refine j_iload_n (i := 3) (t := 16) C d_S_init_15 rfl rfl rfl ?_
  refine j_putFW (t := 19) C hnm fp_S_19 d_S_init_16 (by assumption) (by first | rfl | exact jnar_rf) (by first | rfl | exact jfit_rf) (by first | exact Nat.le_of_ble_eq_true rfl | (simp only [List.length_set]; omega)) rfl (fun w16 e16 h16 f16 => ?_)
  refine j_aload_n (i := 0) (t := 20) C d_S_init_19 rfl rfl (by first | exact jrv_r | exact jrv_n | exact jrv_f) rfl ?_
  refine j_aload (t := 22) C d_S_init_20 rfl (by first | exact jrv_r | exact jrv_n | exact jrv_f) rfl ?_
  refine j_putFW (t := 25) C hnm fp_S_22 d_S_init_22 (by assumption) (by first | rfl | exact jnar_rf) (by first | rfl | exact jfit_rf) (by first | exact Nat.le_of_ble_eq_true rfl | (simp only [List.length_set]; omega)) rfl (fun w22 e22 h22 f22 => ?_)
  refine j_aload_n (i := 0) (t := 26) C d_S_init_25 rfl rfl (by first | exact jrv_r | exact jrv_n | exact jrv_f) rfl ?_
  refine j_aload (t := 28) C d_S_init_26 rfl (by first | exact jrv_r | exact jrv_n | exact jrv_f) rfl ?_
  refine j_putFW (t := 31) C hnm fp_S_25 d_S_init_28 (by assumption) (by first | rfl | exact jnar_rf) (by first | rfl | exact jfit_rf) (by first | exact Nat.le_of_ble_eq_true rfl | (simp only [List.length_set]; omega)) rfl (fun w28 e28 h28 f28 => ?_)
  refine j_aload_n (i := 0) (t := 32) C d_S_init_31 rfl rfl (by first | exact jrv_r | exact jrv_n | exact jrv_f) rfl ?_
  refine j_iload (t := 34) C d_S_init_32 rfl rfl ?_
  refine j_putFW (t := 37) C hnm fp_S_29 d_S_init_34 (by assumption) (by first | rfl | exact jnar_rf) (by first | rfl | exact jfit_rf) (by first | exact Nat.le_of_ble_eq_true rfl | (simp only [List.length_set]; omega)) rfl (fun w34 e34 h34 f34 => ?_)
  refine j_aload_n (i := 0) (t := 38) C d_S_init_37 rfl rfl (by first | exact jrv_r | exact jrv_n | exact jrv_f) rfl ?_
  refine j_iload (t := 40) C d_S_init_38 rfl rfl ?_
  refine j_putFW (t := 43) C hnm fp_S_32 d_S_init_40 (by assumption) (by first | rfl | exact jnar_rf) (by first | rfl | exact jfit_rf) (by first | exact Nat.le_of_ble_eq_true rfl | (simp only [List.length_set]; omega)) rfl (fun w40 e40 h40 f40 => ?_)
  exact j_vret C d_S_init_43 (⟨rfl, h40, (((((((KA.rf.put f6 (by simp)).put f11 (by simp)).put f16 (by simp)).put f22 (by simp)).put f28 (by simp)).put f34 (by simp)).put f40 (by simp))⟩) (by omega) (by omega)
