set_option maxHeartbeats 4000000 in
set_option maxRecDepth 100000 in
/-- dictionary -/
theorem c_M_dictionary (l : Launch) (o : Nat) (s : jS) (x : Int32) : MC l y_M_dictionary b_M_dictionary 5 ((some .boolean)) 2 0 0
    (fun G w av => av = [.ref o, .int x] ∧ RepM G w o s ∧ WF s)
    (fun G w av r w' => r = some (.int (sp_dict s x).1) ∧ RepM G w' o (sp_dict s x).2) := by
  refine MC.of 99 (by decide) ?_
  intro X w av hl C hnm hp
  obtain ⟨rfl, ⟨q, m, hM, hR⟩, hW⟩ := hp
  obtain ⟨wtn, wtp, wcc, wln, wsn, wzn, wcol, wlit, wst, wzt⟩ := id hW
  refine ⟨[(0, _), (1, _)], rfl, Nat.le_of_ble_eq_true rfl, rfl, ?_⟩
  refine j_aload_n (i := 0) (t := 1) C d_M_dictionary_0 rfl rfl (by first | exact jrv_r | exact jrv_n | exact jrv_f) rfl ?_
  refine j_iconst (x := 0) (t := 2) C d_M_dictionary_1 rfl rfl ?_
  refine j_pt_cd (t := 5) C fp_M_79 d_M_dictionary_2 hM rfl (fun w2 M2 => ?_)
  obtain ⟨n, M2, hR⟩ : ∃ n : jM, MH (xG X) w2 o q n ∧ relM s n := ⟨_, M2, relM_cd hR⟩
  obtain ⟨⟨r_tn, r_tp⟩, ⟨r_cc, r_ln, r_sn, r_zn⟩, r_col, r_new, r_sz, r_lit, r_st, r_zt⟩ := id hR
  refine j_aload_n (i := 0) (t := 6) C d_M_dictionary_5 rfl rfl (by first | exact jrv_r | exact jrv_n | exact jrv_f) rfl ?_
  refine j_iload_n (i := 1) (t := 7) C d_M_dictionary_6 rfl rfl rfl ?_
  refine j_callV (As := [_]) (t := 10) C (c_M_isColumn _ o q n s x) d_M_dictionary_7 jb_M_isColumn ml_M_89 jv_M_isColumn M2.1 rfl rfl rfl (Nat.le_of_ble_eq_true rfl) (by decide) (by omega) (by omega) (⟨rfl, M2, r_cc⟩) rfl (fun r7 w7 p7 => ?_)
  obtain ⟨rfl, rfl⟩ := p7
  dsimp only [jst]
  refine j_if_eq (tgt := 41) (t := 13) C d_M_dictionary_10 (by decide) rfl (fun h10 => ?_) (fun h10 => ?_)
  · refine j_iconst (x := 0) (t := 42) C d_M_dictionary_41 rfl rfl ?_
    exact j_iret C d_M_dictionary_42 (by first | rfl | exact nar_b) (by
          first
          | (rw [dict_n (ci_none h10)]; exact ⟨rfl, RepM.of M2 hR⟩)
          | (rw [dict_f hcx (by rw [bI_0.mp h19]; exact dcr_f)]; exact ⟨rfl, RepM.of M2 hR⟩)
          | (rw [dict_f hcx (dcr_l (mo_none (bI_0.mp h28)))]; exact ⟨rfl, RepM.of M2 hR⟩)) (by omega) (by omega)
  · obtain ⟨c, hcx⟩ := ci_some h10
    obtain ⟨hc, rfl⟩ := cix_some wcc hcx
    obtain ⟨hty, hcnt, -, hrow, hkn0, hkn1⟩ := r_col c hc
    have hok := wcol c hc
    have hrc := hok.2.1
    have h16 : c < 16 := by omega
    refine j_aload_n (i := 0) (t := 14) C d_M_dictionary_13 rfl rfl (by first | exact jrv_r | exact jrv_n | exact jrv_f) rfl ?_
    refine j_get (t := 17) C fl_M_45 d_M_dictionary_14 M2.1 rfl rfl ?_
    refine j_iload_n (i := 1) (t := 18) C d_M_dictionary_17 rfl rfl rfl ?_
    refine j_ld_kn (i := c) (t := 19) C d_M_dictionary_18 M2 (by rfl) (by omega) (hkn0) rfl ?_
    refine j_if_eq (tgt := 41) (t := 22) C d_M_dictionary_19 (by decide) rfl (fun h19 => ?_) (fun h19 => ?_)
    · refine j_iconst (x := 0) (t := 42) C d_M_dictionary_41 rfl rfl ?_
      exact j_iret C d_M_dictionary_42 (by first | rfl | exact nar_b) (by
            first
            | (rw [dict_n (ci_none h10)]; exact ⟨rfl, RepM.of M2 hR⟩)
            | (rw [dict_f hcx (by rw [bI_0.mp h19]; exact dcr_f)]; exact ⟨rfl, RepM.of M2 hR⟩)
            | (rw [dict_f hcx (dcr_l (mo_none (bI_0.mp h28)))]; exact ⟨rfl, RepM.of M2 hR⟩)) (by omega) (by omega)
    · have hkn := bI_t h19
      have hK := hkn1 hkn
      refine j_aload_n (i := 0) (t := 23) C d_M_dictionary_22 rfl rfl (by first | exact jrv_r | exact jrv_n | exact jrv_f) rfl ?_
      refine j_get (t := 26) C fl_M_49 d_M_dictionary_23 M2.1 rfl rfl ?_
      refine j_iload_n (i := 1) (t := 27) C d_M_dictionary_26 rfl rfl rfl ?_
      refine j_ld_hm (i := c) (t := 28) C d_M_dictionary_27 M2 (by rfl) (by omega) (hK.2.2.1) rfl ?_
      refine j_if_eq (tgt := 41) (t := 31) C d_M_dictionary_28 (by decide) rfl (fun h28 => ?_) (fun h28 => ?_)
      · refine j_iconst (x := 0) (t := 42) C d_M_dictionary_41 rfl rfl ?_
        exact j_iret C d_M_dictionary_42 (by first | rfl | exact nar_b) (by
              first
              | (rw [dict_n (ci_none h10)]; exact ⟨rfl, RepM.of M2 hR⟩)
              | (rw [dict_f hcx (by rw [bI_0.mp h19]; exact dcr_f)]; exact ⟨rfl, RepM.of M2 hR⟩)
              | (rw [dict_f hcx (dcr_l (mo_none (bI_0.mp h28)))]; exact ⟨rfl, RepM.of M2 hR⟩)) (by omega) (by omega)
      · obtain ⟨p, hp⟩ := Option.isSome_iff_exists.mp (bI_t h28)
        refine j_aload_n (i := 0) (t := 32) C d_M_dictionary_31 rfl rfl (by first | exact jrv_r | exact jrv_n | exact jrv_f) rfl ?_
        refine j_iload_n (i := 1) (t := 33) C d_M_dictionary_32 rfl rfl rfl ?_
        refine j_iconst (x := 1) (t := 34) C d_M_dictionary_33 rfl rfl ?_
        refine j_callV (As := [_, _]) (t := 37) C (c_M_mostH _ o q n s c) d_M_dictionary_34 jb_M_most ml_M_149 jv_M_most M2.1 rfl rfl rfl (Nat.le_of_ble_eq_true rfl) (by decide) (by omega) (by omega) (⟨⟨rfl, M2, hR, hW⟩, hc⟩) rfl (fun r34 w34 p34 => ?_)
        obtain ⟨rfl, p34⟩ := p34
        rcases p34 with ⟨hno, rfl⟩ | ⟨r1, x0, hr1, fx0, hx0, rfl⟩
        · dsimp only [jst]
          refine j_iconst (x := (-1)) (t := 38) C d_M_dictionary_37 rfl rfl ?_
          refine j_icmp_ne (tgt := 43) (t := 41) C d_M_dictionary_38 (by decide) rfl (fun h38 => absurd h38 (fun z => z rfl)) (fun h38 => ?_)
          refine j_iconst (x := 0) (t := 42) C d_M_dictionary_41 rfl rfl ?_
          exact j_iret C d_M_dictionary_42 (by first | rfl | exact nar_b) (by rw [dict_f3 hcx hkn hp hno]; exact ⟨rfl, RepM.of M2 hR⟩) (by omega) (by omega)
        · dsimp only [jst]
          refine j_iconst (x := (-1)) (t := 38) C d_M_dictionary_37 rfl rfl ?_
          refine j_icmp_ne (tgt := 43) (t := 41) C d_M_dictionary_38 (by decide) rfl (fun h38 => ?_) (fun h38 => absurd h38 (nI_m1 (by omega)))
          refine j_iconst (x := 0) (t := 44) C d_M_dictionary_43 rfl rfl ?_
          refine j_istore_n (i := 2) (t := 45) (lv' := [(0, _), (1, _), (2, _)]) C d_M_dictionary_44 rfl (by decide) (by decide) rfl rfl ?_
          refine j_iconst (x := 0) (t := 46) C d_M_dictionary_45 rfl rfl ?_
          refine j_istore_n (i := 3) (t := 47) (lv' := [(0, _), (1, _), (2, _), (3, _)]) C d_M_dictionary_46 rfl (by decide) (by decide) rfl rfl ?_
          have two : dQ (g_rf s c) p.1 p.2 (g_rc s c) → J X (5, 99) (jQ X (fun r w' => r = some (.int (sp_dict s (nI c)).1) ∧ RepM (xG X) w' o (sp_dict s (nI c)).2) 0 0) w34 0 0 141 [(0, .ref o), (1, .int (nI c)), (2, .int (nI (nfR (g_rf s c) (g_rc s c)))), (3, .int (nI (g_rc s c)))] [] := by
            intro hQ
            refine j_iload_n (i := 2) (t := 142) C d_M_dictionary_141 rfl rfl rfl ?_
            refine j_bipush (x := nI 100) (t := 144) C d_M_dictionary_142 rfl rfl ?_
            have hnn := nf_n (f := g_rf s c) (g_rc s c)
            refine j_icmp_le (tgt := 149) (t := 147) C d_M_dictionary_144 (by decide) rfl (fun h144 => ?_) (fun h144 => ?_)
            · have hnf : nfR (g_rf s c) (g_rc s c) ≤ 100 := fdl h144 (by omega) (by omega)
              obtain ⟨g, hg⟩ := dQ_ok hQ hnf
              have hes := esum_nf hg.2.2.2.2.1
              have hts := hok.2.2.1
              refine j_aload_n (i := 0) (t := 150) C d_M_dictionary_149 rfl rfl (by first | exact jrv_r | exact jrv_n | exact jrv_f) rfl ?_
              refine j_get (t := 153) C fl_M_42 d_M_dictionary_150 M2.1 rfl rfl ?_
              refine j_iload_n (i := 1) (t := 154) C d_M_dictionary_153 rfl rfl rfl ?_
              refine j_iconst (x := 0) (t := 155) C d_M_dictionary_154 rfl rfl ?_
              refine j_st_wd (i := c) (t := 156) C d_M_dictionary_155 M2 (by rfl) (by omega) rfl (fun w155 M155 => ?_)
              refine j_ldc (x := nI 136192) (t := 158) C d_M_dictionary_156 ct_M_159 rfl ?_
              refine j_sipush (x := nI 8000) (t := 161) C d_M_dictionary_158 rfl rfl ?_
              refine j_iload_n (i := 1) (t := 162) C d_M_dictionary_161 rfl rfl rfl ?_
              refine j_imul (t := 163) C d_M_dictionary_162 rfl ?_
              refine j_iadd (t := 164) C d_M_dictionary_163 rfl ?_
              rw [nI_mul, nI_add]
              refine j_istore_n (i := 3) (t := 165) (lv' := [(0, _), (1, _), (2, _), (3, _)]) C d_M_dictionary_164 rfl (by decide) (by decide) rfl rfl ?_
              refine j_iconst (x := 0) (t := 166) C d_M_dictionary_165 rfl rfl ?_
              refine j_istore (i := 4) (t := 168) (lv' := [(0, _), (1, _), (2, _), (3, _), (4, _)]) C d_M_dictionary_166 (by decide) (by decide) rfl rfl ?_
              have loop : ∀ (qq i : Nat) (wi : jw) (mi : jM), g_rc s c + 1 ≤ i + qq → i ≤ g_rc s c → MH (xG X) wi o q mi → dL s n mi c i g → J X (5, 99) (jQ X (fun r w' => r = some (.int (sp_dict s (nI c)).1) ∧ RepM (xG X) w' o (sp_dict s (nI c)).2) 0 0) wi 0 0 168 [(0, .ref o), (1, .int (nI c)), (2, .int (nI (nfR (g_rf s c) (g_rc s c)))), (3, .int (nI (136192 + 8000 * c + esum g (nfR (g_rf s c) i)))), (4, .int (nI i))] [] := by
                intro qq
                induction qq with
                | zero => intro i wi mi h1 h2; omega
                | succ qq ih =>
                  intro i wi mi hi1 hi2 hMi hL
                  refine j_iload (t := 170) C d_M_dictionary_168 rfl rfl ?_
                  refine j_aload_n (i := 0) (t := 171) C d_M_dictionary_170 rfl rfl (by first | exact jrv_r | exact jrv_n | exact jrv_f) rfl ?_
                  refine j_get (t := 174) C fl_M_30 d_M_dictionary_171 hMi.1 rfl rfl ?_
                  refine j_iload_n (i := 1) (t := 175) C d_M_dictionary_174 rfl rfl rfl ?_
                  refine j_ld_cnt (i := c) (t := 176) C d_M_dictionary_175 hMi (by rfl) (by omega) ((congrFun hL.2.2.2.1.2.1 c).trans hcnt) rfl ?_
                  refine j_icmp_ge (tgt := 266) (t := 179) C d_M_dictionary_176 (by decide) rfl (fun h176 => ?_) (fun h176 => ?_)
                  · have hie : i = g_rc s c := fde h176 (by omega) (by omega) hi2
                    subst hie
                    refine j_iconst (x := 1) (t := 267) C d_M_dictionary_266 rfl rfl ?_
                    exact j_iret C d_M_dictionary_267 (by first | rfl | exact nar_b) (by
                          rw [dict_t2 hcx hkn hp hg.1 (nf_pos hg fx0 hr1)]
                          exact ⟨rfl, RepM.of hMi (relM_dict hR hW hc hkn rfl (Nat.le_trans (hes _ (Nat.le_refl _)) hts) hL)⟩) (by omega) (by omega)
                  · have hi : i < g_rc s c := fdh h176 (by omega) (by omega)
                    have hni := nf_n (f := g_rf s c) i
                    refine j_aload_n (i := 0) (t := 180) C d_M_dictionary_179 rfl rfl (by first | exact jrv_r | exact jrv_n | exact jrv_f) rfl ?_
                    refine j_iload_n (i := 1) (t := 181) C d_M_dictionary_180 rfl rfl rfl ?_
                    refine j_iload (t := 183) C d_M_dictionary_181 rfl rfl ?_
                    refine j_callV (As := [_, _]) (t := 186) C (c_M_firstR _ o q mi s c i) d_M_dictionary_183 jb_M_isFirst ml_M_156 jv_M_isFirst hMi.1 rfl rfl rfl (Nat.le_of_ble_eq_true rfl) (by decide) (by omega) (by omega) (⟨⟨rfl, hMi, dL_rows hR hW hc hL, hW⟩, hc, hi⟩) rfl (fun r183 w183 p183 => ?_)
                    obtain ⟨rfl, rfl⟩ := p183
                    dsimp only [jst]
                    refine j_if_ne (tgt := 192) (t := 189) C d_M_dictionary_186 (by decide) rfl (fun h186 => ?_) (fun h186 => ?_)
                    · have hfi := bI_t h186
                      obtain ⟨x1, hx1⟩ : ∃ x1, g_rf s c i = some x1 := fst_some hfi
                      obtain ⟨K, z1, -, hK2, l1, f1⟩ := row_sz hR hW hc hi hx1
                      have hg1 := hg.2.2.2.2.1 i x1 hi hx1 hfi
                      have hn1 := nf_le (f := g_rf s c) (a := i + 1) (b := g_rc s c) (by omega)
                      rw [nf_1 hfi] at hn1
                      have he1 := hes (i + 1) (by omega)
                      rw [nf_1 hfi] at he1
                      have he2 : esum g (nfR (g_rf s c) i + 1) = esum g (nfR (g_rf s c) i) + K := by simp only [esum]; rw [hg1, hK2]
                      have ht1 := tsum_le (f := g_rf s c) (a := i + 1) (b := g_rc s c) (by omega)
                      have hs3 := hL.2.1 (1000 * c + i) (by omega)
                      have hwd := hL.2.2.2.2.2.1
                      refine j_aload_n (i := 0) (t := 193) C d_M_dictionary_192 rfl rfl (by first | exact jrv_r | exact jrv_n | exact jrv_f) rfl ?_
                      refine j_sipush (x := nI 16032) (t := 196) C d_M_dictionary_193 rfl rfl ?_
                      refine j_bipush (x := nI 100) (t := 198) C d_M_dictionary_196 rfl rfl ?_
                      refine j_iload_n (i := 1) (t := 199) C d_M_dictionary_198 rfl rfl rfl ?_
                      refine j_imul (t := 200) C d_M_dictionary_199 rfl ?_
                      refine j_iadd (t := 201) C d_M_dictionary_200 rfl ?_
                      refine j_aload_n (i := 0) (t := 202) C d_M_dictionary_201 rfl rfl (by first | exact jrv_r | exact jrv_n | exact jrv_f) rfl ?_
                      refine j_get (t := 205) C fl_M_42 d_M_dictionary_202 hMi.1 rfl rfl ?_
                      refine j_iload_n (i := 1) (t := 206) C d_M_dictionary_205 rfl rfl rfl ?_
                      refine j_ld_wd (i := c) (t := 207) C d_M_dictionary_206 hMi (by rfl) (by omega) (hwd) rfl ?_
                      refine j_iadd (t := 208) C d_M_dictionary_207 rfl ?_
                      refine j_sipush (x := nI 1000) (t := 211) C d_M_dictionary_208 rfl rfl ?_
                      refine j_iload_n (i := 1) (t := 212) C d_M_dictionary_211 rfl rfl rfl ?_
                      refine j_imul (t := 213) C d_M_dictionary_212 rfl ?_
                      refine j_iload (t := 215) C d_M_dictionary_213 rfl rfl ?_
                      refine j_iadd (t := 216) C d_M_dictionary_215 rfl ?_
                      refine j_iload_n (i := 3) (t := 217) C d_M_dictionary_216 rfl rfl rfl ?_
                      simp only [nI_mul, nI_add]
                      refine j_callV (As := [_, _, _]) (t := 220) C (c_M_copy _ o q mi (16032 + 100 * c + nfR (g_rf s c) i) (1000 * c + i) K (8000 * c + tsum (g_rf s c) i) (136192 + 8000 * c + esum g (nfR (g_rf s c) i))) d_M_dictionary_217 jb_M_copy ml_M_153 jv_M_copy hMi.1 rfl rfl rfl (Nat.le_of_ble_eq_true rfl) (by decide) (by omega) (by omega) (⟨rfl, hMi, ⟨by omega, by omega, by omega⟩, ⟨hs3.2.1.trans z1, by omega, by omega⟩, fun z => by obtain ⟨f2, f3⟩ := f1 z; exact ⟨hs3.2.2.trans f2, by omega, by omega⟩⟩) rfl (fun r217 w217 p217 => ?_)
                      obtain ⟨rfl, bb, M217, b1, b2⟩ := p217
                      dsimp only [jst]
                      refine j_iload_n (i := 3) (t := 221) C d_M_dictionary_220 rfl rfl rfl ?_
                      refine j_aload_n (i := 0) (t := 222) C d_M_dictionary_221 rfl rfl (by first | exact jrv_r | exact jrv_n | exact jrv_f) rfl ?_
                      refine j_get (t := 225) C fl_M_27 d_M_dictionary_222 M217.1 rfl rfl ?_
                      refine j_iload_n (i := 1) (t := 226) C d_M_dictionary_225 rfl rfl rfl ?_
                      refine j_ld_ty (i := c) (t := 227) C d_M_dictionary_226 M217 (by rfl) (by omega) ((congrFun hL.2.2.2.1.1 c).trans hty) rfl ?_
                      refine j_iconst (x := 2) (t := 228) C d_M_dictionary_227 rfl rfl ?_
                      refine j_icmp_ne (tgt := 247) (t := 231) C d_M_dictionary_228 (by decide) rfl (fun h228 => ?_) (fun h228 => ?_)
                      · refine j_iconst (x := 0) (t := 248) C d_M_dictionary_247 rfl rfl ?_
                        refine j_iadd (t := 249) C d_M_dictionary_248 rfl ?_
                        have hpl : ∀ z : Int32, z = nI K → nI (136192 + 8000 * c + esum g (nfR (g_rf s c) i)) + z = nI (136192 + 8000 * c + esum g (nfR (g_rf s c) (i + 1))) := fun z hz => by rw [hz, nI_add, nf_1 hfi, he2, Nat.add_assoc]
                        first | rw [hpl _ rfl] | rw [hpl 0 (by rw [hK2, (hok.2.2.2.1 i hi x1 hx1).2.2.1 h228]; rfl)]
                        refine j_istore_n (i := 3) (t := 250) (lv' := [(0, _), (1, _), (2, _), (3, _), (4, _)]) C d_M_dictionary_249 rfl (by decide) (by decide) rfl rfl ?_
                        refine j_aload_n (i := 0) (t := 251) C d_M_dictionary_250 rfl rfl (by first | exact jrv_r | exact jrv_n | exact jrv_f) rfl ?_
                        refine j_get (t := 254) C fl_M_42 d_M_dictionary_251 M217.1 rfl rfl ?_
                        refine j_iload_n (i := 1) (t := 255) C d_M_dictionary_254 rfl rfl rfl ?_
                        refine j_dup2 (t := 256) C d_M_dictionary_255 rfl rfl rfl ?_
                        refine j_ld_wd (i := c) (t := 257) C d_M_dictionary_256 M217 (by rfl) (by omega) (hwd) rfl ?_
                        refine j_iconst (x := 1) (t := 258) C d_M_dictionary_257 rfl rfl ?_
                        refine j_iadd (t := 259) C d_M_dictionary_258 rfl ?_
                        rw [nI_1]
                        refine j_st_wd (i := c) (t := 260) C d_M_dictionary_259 M217 (by rfl) (by omega) rfl (fun w259 M259 => ?_)
                        refine j_iinc (y := _ + 1) (t := 263) (lv' := [(0, _), (1, _), (2, _), (3, _), (4, _)]) C d_M_dictionary_260 rfl rfl (by decide) (by decide) rfl rfl ?_
                        refine j_goto (tgt := 168) C d_M_dictionary_263 (by decide) ?_
                        rw [nI_1]
                        first
                        | exact ih (i + 1) w259 _ (by omega) (by omega) M259 (dL_add hL h16 (by omega) hfi (by omega) hg1 (valM_ok (m := n) hs3 (fun k hk => hL.2.2.1 _ (by omega)) ((hrow i hi).2 x1 hx1)) hK2 (by omega) b1 b2 rfl rfl rfl rfl rfl ⟨rfl, rfl, rfl, rfl, rfl, rfl, rfl, rfl, rfl, rfl, rfl, rfl, rfl⟩ ⟨rfl, rfl, rfl, rfl, rfl, rfl, rfl, rfl⟩)
                        | (rw [← nf_0 hfi]; exact ih (i + 1) _ mi (by omega) (by omega) hMi (dL_s hL hfi))
                      · refine j_aload_n (i := 0) (t := 232) C d_M_dictionary_231 rfl rfl (by first | exact jrv_r | exact jrv_n | exact jrv_f) rfl ?_
                        refine j_get (t := 235) C fl_M_20 d_M_dictionary_232 M217.1 rfl rfl ?_
                        refine j_sipush (x := nI 1000) (t := 238) C d_M_dictionary_235 rfl rfl ?_
                        refine j_iload_n (i := 1) (t := 239) C d_M_dictionary_238 rfl rfl rfl ?_
                        refine j_imul (t := 240) C d_M_dictionary_239 rfl ?_
                        refine j_iload (t := 242) C d_M_dictionary_240 rfl rfl ?_
                        refine j_iadd (t := 243) C d_M_dictionary_242 rfl ?_
                        refine j_ld_size (i := 1000 * c + i) (t := 244) C d_M_dictionary_243 M217 (by rw [nI_mul, nI_add]) (by omega) ((upd_ne (by omega)).trans (hs3.2.1.trans z1)) rfl ?_
                        refine j_goto (tgt := 248) C d_M_dictionary_244 (by decide) ?_
                        refine j_iadd (t := 249) C d_M_dictionary_248 rfl ?_
                        have hpl : ∀ z : Int32, z = nI K → nI (136192 + 8000 * c + esum g (nfR (g_rf s c) i)) + z = nI (136192 + 8000 * c + esum g (nfR (g_rf s c) (i + 1))) := fun z hz => by rw [hz, nI_add, nf_1 hfi, he2, Nat.add_assoc]
                        first | rw [hpl _ rfl] | rw [hpl 0 (by rw [hK2, (hok.2.2.2.1 i hi x1 hx1).2.2.1 h228]; rfl)]
                        refine j_istore_n (i := 3) (t := 250) (lv' := [(0, _), (1, _), (2, _), (3, _), (4, _)]) C d_M_dictionary_249 rfl (by decide) (by decide) rfl rfl ?_
                        refine j_aload_n (i := 0) (t := 251) C d_M_dictionary_250 rfl rfl (by first | exact jrv_r | exact jrv_n | exact jrv_f) rfl ?_
                        refine j_get (t := 254) C fl_M_42 d_M_dictionary_251 M217.1 rfl rfl ?_
                        refine j_iload_n (i := 1) (t := 255) C d_M_dictionary_254 rfl rfl rfl ?_
                        refine j_dup2 (t := 256) C d_M_dictionary_255 rfl rfl rfl ?_
                        refine j_ld_wd (i := c) (t := 257) C d_M_dictionary_256 M217 (by rfl) (by omega) (hwd) rfl ?_
                        refine j_iconst (x := 1) (t := 258) C d_M_dictionary_257 rfl rfl ?_
                        refine j_iadd (t := 259) C d_M_dictionary_258 rfl ?_
                        rw [nI_1]
                        refine j_st_wd (i := c) (t := 260) C d_M_dictionary_259 M217 (by rfl) (by omega) rfl (fun w259 M259 => ?_)
                        refine j_iinc (y := _ + 1) (t := 263) (lv' := [(0, _), (1, _), (2, _), (3, _), (4, _)]) C d_M_dictionary_260 rfl rfl (by decide) (by decide) rfl rfl ?_
                        refine j_goto (tgt := 168) C d_M_dictionary_263 (by decide) ?_
                        rw [nI_1]
                        first
                        | exact ih (i + 1) w259 _ (by omega) (by omega) M259 (dL_add hL h16 (by omega) hfi (by omega) hg1 (valM_ok (m := n) hs3 (fun k hk => hL.2.2.1 _ (by omega)) ((hrow i hi).2 x1 hx1)) hK2 (by omega) b1 b2 rfl rfl rfl rfl rfl ⟨rfl, rfl, rfl, rfl, rfl, rfl, rfl, rfl, rfl, rfl, rfl, rfl, rfl⟩ ⟨rfl, rfl, rfl, rfl, rfl, rfl, rfl, rfl⟩)
                        | (rw [← nf_0 hfi]; exact ih (i + 1) _ mi (by omega) (by omega) hMi (dL_s hL hfi))
                    · have hfi := bI_0.mp h186
                      refine j_goto (tgt := 260) C d_M_dictionary_189 (by decide) ?_
                      refine j_iinc (y := _ + 1) (t := 263) (lv' := [(0, _), (1, _), (2, _), (3, _), (4, _)]) C d_M_dictionary_260 rfl rfl (by decide) (by decide) rfl rfl ?_
                      refine j_goto (tgt := 168) C d_M_dictionary_263 (by decide) ?_
                      rw [nI_1]
                      first
                      | exact ih (i + 1) w259 _ (by omega) (by omega) M259 (dL_add hL h16 (by omega) hfi (by omega) hg1 (valM_ok (m := n) hs3 (fun k hk => hL.2.2.1 _ (by omega)) ((hrow i hi).2 x1 hx1)) hK2 (by omega) b1 b2 rfl rfl rfl rfl rfl ⟨rfl, rfl, rfl, rfl, rfl, rfl, rfl, rfl, rfl, rfl, rfl, rfl, rfl⟩ ⟨rfl, rfl, rfl, rfl, rfl, rfl, rfl, rfl⟩)
                      | (rw [← nf_0 hfi]; exact ih (i + 1) _ mi (by omega) (by omega) hMi (dL_s hL hfi))
              exact loop (g_rc s c + 1) 0 _ _ (by omega) (Nat.zero_le _) M155 dL_0
            · refine j_iconst (x := 0) (t := 148) C d_M_dictionary_147 rfl rfl ?_
              exact j_iret C d_M_dictionary_148 (by first | rfl | exact nar_b) (by rw [dict_f2 hcx hkn hp (dQ_big hQ (Nat.lt_of_not_le (fun z => h144 (nI_le z (by omega)))))]; exact ⟨rfl, RepM.of M2 hR⟩) (by omega) (by omega)
          have loop : ∀ (qq e : Nat), g_rc s c + 1 ≤ e + qq → e ≤ g_rc s c → dQ (g_rf s c) p.1 p.2 e → J X (5, 99) (jQ X (fun r w' => r = some (.int (sp_dict s (nI c)).1) ∧ RepM (xG X) w' o (sp_dict s (nI c)).2) 0 0) w34 0 0 47 [(0, .ref o), (1, .int (nI c)), (2, .int (nI (nfR (g_rf s c) e))), (3, .int (nI e))] [] := by
            intro qq
            induction qq with
            | zero => intro e h1 h2; omega
            | succ qq ih =>
              intro e hi1 hi2 hQ
              refine j_iload_n (i := 3) (t := 48) C d_M_dictionary_47 rfl rfl rfl ?_
              refine j_aload_n (i := 0) (t := 49) C d_M_dictionary_48 rfl rfl (by first | exact jrv_r | exact jrv_n | exact jrv_f) rfl ?_
              refine j_get (t := 52) C fl_M_30 d_M_dictionary_49 M2.1 rfl rfl ?_
              refine j_iload_n (i := 1) (t := 53) C d_M_dictionary_52 rfl rfl rfl ?_
              refine j_ld_cnt (i := c) (t := 54) C d_M_dictionary_53 M2 (by rfl) (by omega) (hcnt) rfl ?_
              refine j_icmp_ge (tgt := 141) (t := 57) C d_M_dictionary_54 (by decide) rfl (fun h54 => ?_) (fun h54 => ?_)
              · have hee : e = g_rc s c := fde h54 (by omega) (by omega) hi2
                subst hee
                exact two hQ
              · have he : e < g_rc s c := fdh h54 (by omega) (by omega)
                refine j_sipush (x := nI 1000) (t := 60) C d_M_dictionary_57 rfl rfl ?_
                refine j_iload_n (i := 1) (t := 61) C d_M_dictionary_60 rfl rfl rfl ?_
                refine j_imul (t := 62) C d_M_dictionary_61 rfl ?_
                refine j_iload_n (i := 3) (t := 63) C d_M_dictionary_62 rfl rfl rfl ?_
                refine j_iadd (t := 64) C d_M_dictionary_63 rfl ?_
                rw [nI_mul, nI_add]
                refine j_istore (i := 4) (t := 66) (lv' := [(0, _), (1, _), (2, _), (3, _), (4, _)]) C d_M_dictionary_64 (by decide) (by decide) rfl rfl ?_
                refine j_aload_n (i := 0) (t := 67) C d_M_dictionary_66 rfl rfl (by first | exact jrv_r | exact jrv_n | exact jrv_f) rfl ?_
                refine j_get (t := 70) C fl_M_52 d_M_dictionary_67 M2.1 rfl rfl ?_
                refine j_iload (t := 72) C d_M_dictionary_70 rfl rfl ?_
                refine j_ld_has (i := 1000 * c + e) (t := 73) C d_M_dictionary_72 M2 (by rfl) (by omega) ((hrow e he).1) rfl ?_
                refine j_if_eq (tgt := 118) (t := 76) C d_M_dictionary_73 (by decide) rfl (fun h73 => ?_) (fun h73 => ?_)
                · refine j_iload_n (i := 2) (t := 119) C d_M_dictionary_118 rfl rfl rfl ?_
                  refine j_aload_n (i := 0) (t := 120) C d_M_dictionary_119 rfl rfl (by first | exact jrv_r | exact jrv_n | exact jrv_f) rfl ?_
                  refine j_iload_n (i := 1) (t := 121) C d_M_dictionary_120 rfl rfl rfl ?_
                  refine j_iload_n (i := 3) (t := 122) C d_M_dictionary_121 rfl rfl rfl ?_
                  refine j_callV (As := [_, _]) (t := 125) C (c_M_isFirst _ o q n s c e) d_M_dictionary_122 jb_M_isFirst ml_M_156 jv_M_isFirst M2.1 rfl rfl rfl (Nat.le_of_ble_eq_true rfl) (by decide) (by omega) (by omega) (⟨⟨rfl, M2, hR, hW⟩, hc, he⟩) rfl (fun r122 w122 p122 => ?_)
                  obtain ⟨rfl, rfl⟩ := p122
                  dsimp only [jst]
                  refine j_if_eq (tgt := 132) (t := 128) C d_M_dictionary_125 (by decide) rfl (fun h125 => ?_) (fun h125 => ?_)
                  · refine j_iconst (x := 0) (t := 133) C d_M_dictionary_132 rfl rfl ?_
                    refine j_iadd (t := 134) C d_M_dictionary_133 rfl ?_
                    refine j_istore_n (i := 2) (t := 135) (lv' := [(0, _), (1, _), (2, _), (3, _), (4, _)]) C d_M_dictionary_134 rfl (by decide) (by decide) rfl rfl ?_
                    refine j_iinc (y := _ + 1) (t := 138) (lv' := [(0, _), (1, _), (2, _), (3, _), (4, _)]) C d_M_dictionary_135 rfl rfl (by decide) (by decide) rfl rfl ?_
                    refine j_goto (tgt := 47) C d_M_dictionary_138 (by decide) ?_
                    refine j_pick [0, 1, 2, 3] rfl ?_
                    have hQ2 : dQ (g_rf s c) p.1 p.2 (e + 1) := by first | exact dQ_n (hs_none h73) hQ | exact dQ_s hx1 ⟨fun z => h93 (s90.1.1.mpr z), fun z => absurd ((sg_le s110.1).mp h113) (Int.not_le.mpr z)⟩ hQ
                    first
                    | (rw [nI_1, nI_1, ← nf_1 (bI_t h125)]; exact ih (e + 1) (by omega) (by omega) hQ2)
                    | (rw [show nI (nfR (g_rf s c) e) + 0 = nI (nfR (g_rf s c) e) from Int32.add_zero _, nI_1, ← nf_0 (bI_0.mp h125)]; exact ih (e + 1) (by omega) (by omega) hQ2)
                  · refine j_iconst (x := 1) (t := 129) C d_M_dictionary_128 rfl rfl ?_
                    refine j_goto (tgt := 133) C d_M_dictionary_129 (by decide) ?_
                    refine j_iadd (t := 134) C d_M_dictionary_133 rfl ?_
                    refine j_istore_n (i := 2) (t := 135) (lv' := [(0, _), (1, _), (2, _), (3, _), (4, _)]) C d_M_dictionary_134 rfl (by decide) (by decide) rfl rfl ?_
                    refine j_iinc (y := _ + 1) (t := 138) (lv' := [(0, _), (1, _), (2, _), (3, _), (4, _)]) C d_M_dictionary_135 rfl rfl (by decide) (by decide) rfl rfl ?_
                    refine j_goto (tgt := 47) C d_M_dictionary_138 (by decide) ?_
                    refine j_pick [0, 1, 2, 3] rfl ?_
                    have hQ2 : dQ (g_rf s c) p.1 p.2 (e + 1) := by first | exact dQ_n (hs_none h73) hQ | exact dQ_s hx1 ⟨fun z => h93 (s90.1.1.mpr z), fun z => absurd ((sg_le s110.1).mp h113) (Int.not_le.mpr z)⟩ hQ
                    first
                    | (rw [nI_1, nI_1, ← nf_1 (bI_t h125)]; exact ih (e + 1) (by omega) (by omega) hQ2)
                    | (rw [show nI (nfR (g_rf s c) e) + 0 = nI (nfR (g_rf s c) e) from Int32.add_zero _, nI_1, ← nf_0 (bI_0.mp h125)]; exact ih (e + 1) (by omega) (by omega) hQ2)
                · obtain ⟨x1, hx1⟩ := hs_some h73
                  refine j_aload_n (i := 0) (t := 77) C d_M_dictionary_76 rfl rfl (by first | exact jrv_r | exact jrv_n | exact jrv_f) rfl ?_
                  refine j_aload_n (i := 0) (t := 78) C d_M_dictionary_77 rfl rfl (by first | exact jrv_r | exact jrv_n | exact jrv_f) rfl ?_
                  refine j_get (t := 81) C fl_M_27 d_M_dictionary_78 M2.1 rfl rfl ?_
                  refine j_iload_n (i := 1) (t := 82) C d_M_dictionary_81 rfl rfl rfl ?_
                  refine j_ld_ty (i := c) (t := 83) C d_M_dictionary_82 M2 (by rfl) (by omega) (hty) rfl ?_
                  refine j_iload (t := 85) C d_M_dictionary_83 rfl rfl ?_
                  refine j_sipush (x := nI 16000) (t := 88) C d_M_dictionary_85 rfl rfl ?_
                  refine j_iload_n (i := 1) (t := 89) C d_M_dictionary_88 rfl rfl rfl ?_
                  refine j_iadd (t := 90) C d_M_dictionary_89 rfl ?_
                  rw [nI_add]
                  refine j_callV (As := [_, _, _]) (t := 93) C (c_M_cmp _ o q n (g_ty s c) (1000 * c + e) (16000 + c) (x1) (p.1)) d_M_dictionary_90 jb_M_compare ml_M_116 jv_M_compare M2.1 rfl rfl rfl (Nat.le_of_ble_eq_true rfl) (by decide) (by omega) (by omega) (⟨rfl, M2, row_ok hR hW hc he hx1, (lo_ok hR hW hc hkn hp).1⟩) rfl (fun r90 w90 p90 => ?_)
                  obtain ⟨rfl, z90, rfl, s90⟩ := p90
                  dsimp only [jst]
                  refine j_if_lt (tgt := 116) (t := 96) C d_M_dictionary_93 (by decide) rfl (fun h93 => ?_) (fun h93 => ?_)
                  · refine j_iconst (x := 0) (t := 117) C d_M_dictionary_116 rfl rfl ?_
                    exact j_iret C d_M_dictionary_117 (by first | rfl | exact nar_b) (by
                          first
                          | (rw [dict_f2 hcx hkn hp (dct_end (dQ_bad hx1 (fun z => z.1 (s90.1.1.mp h93)) hQ) he)]; exact ⟨rfl, RepM.of M2 hR⟩)
                          | (rw [dict_f2 hcx hkn hp (dct_end (dQ_bad hx1 (fun z => h113 ((sg_le s110.1).mpr (Int.not_lt.mp z.2))) hQ) he)]; exact ⟨rfl, RepM.of M2 hR⟩)) (by omega) (by omega)
                  · refine j_aload_n (i := 0) (t := 97) C d_M_dictionary_96 rfl rfl (by first | exact jrv_r | exact jrv_n | exact jrv_f) rfl ?_
                    refine j_aload_n (i := 0) (t := 98) C d_M_dictionary_97 rfl rfl (by first | exact jrv_r | exact jrv_n | exact jrv_f) rfl ?_
                    refine j_get (t := 101) C fl_M_27 d_M_dictionary_98 M2.1 rfl rfl ?_
                    refine j_iload_n (i := 1) (t := 102) C d_M_dictionary_101 rfl rfl rfl ?_
                    refine j_ld_ty (i := c) (t := 103) C d_M_dictionary_102 M2 (by rfl) (by omega) (hty) rfl ?_
                    refine j_iload (t := 105) C d_M_dictionary_103 rfl rfl ?_
                    refine j_sipush (x := nI 16016) (t := 108) C d_M_dictionary_105 rfl rfl ?_
                    refine j_iload_n (i := 1) (t := 109) C d_M_dictionary_108 rfl rfl rfl ?_
                    refine j_iadd (t := 110) C d_M_dictionary_109 rfl ?_
                    rw [nI_add]
                    refine j_callV (As := [_, _, _]) (t := 113) C (c_M_cmp _ o q n (g_ty s c) (1000 * c + e) (16016 + c) (x1) (p.2)) d_M_dictionary_110 jb_M_compare ml_M_116 jv_M_compare M2.1 rfl rfl rfl (Nat.le_of_ble_eq_true rfl) (by decide) (by omega) (by omega) (⟨rfl, M2, row_ok hR hW hc he hx1, (lo_ok hR hW hc hkn hp).2⟩) rfl (fun r110 w110 p110 => ?_)
                    obtain ⟨rfl, z110, rfl, s110⟩ := p110
                    dsimp only [jst]
                    refine j_if_le (tgt := 118) (t := 116) C d_M_dictionary_113 (by decide) rfl (fun h113 => ?_) (fun h113 => ?_)
                    · refine j_iload_n (i := 2) (t := 119) C d_M_dictionary_118 rfl rfl rfl ?_
                      refine j_aload_n (i := 0) (t := 120) C d_M_dictionary_119 rfl rfl (by first | exact jrv_r | exact jrv_n | exact jrv_f) rfl ?_
                      refine j_iload_n (i := 1) (t := 121) C d_M_dictionary_120 rfl rfl rfl ?_
                      refine j_iload_n (i := 3) (t := 122) C d_M_dictionary_121 rfl rfl rfl ?_
                      refine j_callV (As := [_, _]) (t := 125) C (c_M_isFirst _ o q n s c e) d_M_dictionary_122 jb_M_isFirst ml_M_156 jv_M_isFirst M2.1 rfl rfl rfl (Nat.le_of_ble_eq_true rfl) (by decide) (by omega) (by omega) (⟨⟨rfl, M2, hR, hW⟩, hc, he⟩) rfl (fun r122 w122 p122 => ?_)
                      obtain ⟨rfl, rfl⟩ := p122
                      dsimp only [jst]
                      refine j_if_eq (tgt := 132) (t := 128) C d_M_dictionary_125 (by decide) rfl (fun h125 => ?_) (fun h125 => ?_)
                      · refine j_iconst (x := 0) (t := 133) C d_M_dictionary_132 rfl rfl ?_
                        refine j_iadd (t := 134) C d_M_dictionary_133 rfl ?_
                        refine j_istore_n (i := 2) (t := 135) (lv' := [(0, _), (1, _), (2, _), (3, _), (4, _)]) C d_M_dictionary_134 rfl (by decide) (by decide) rfl rfl ?_
                        refine j_iinc (y := _ + 1) (t := 138) (lv' := [(0, _), (1, _), (2, _), (3, _), (4, _)]) C d_M_dictionary_135 rfl rfl (by decide) (by decide) rfl rfl ?_
                        refine j_goto (tgt := 47) C d_M_dictionary_138 (by decide) ?_
                        refine j_pick [0, 1, 2, 3] rfl ?_
                        have hQ2 : dQ (g_rf s c) p.1 p.2 (e + 1) := by first | exact dQ_n (hs_none h73) hQ | exact dQ_s hx1 ⟨fun z => h93 (s90.1.1.mpr z), fun z => absurd ((sg_le s110.1).mp h113) (Int.not_le.mpr z)⟩ hQ
                        first
                        | (rw [nI_1, nI_1, ← nf_1 (bI_t h125)]; exact ih (e + 1) (by omega) (by omega) hQ2)
                        | (rw [show nI (nfR (g_rf s c) e) + 0 = nI (nfR (g_rf s c) e) from Int32.add_zero _, nI_1, ← nf_0 (bI_0.mp h125)]; exact ih (e + 1) (by omega) (by omega) hQ2)
                      · refine j_iconst (x := 1) (t := 129) C d_M_dictionary_128 rfl rfl ?_
                        refine j_goto (tgt := 133) C d_M_dictionary_129 (by decide) ?_
                        refine j_iadd (t := 134) C d_M_dictionary_133 rfl ?_
                        refine j_istore_n (i := 2) (t := 135) (lv' := [(0, _), (1, _), (2, _), (3, _), (4, _)]) C d_M_dictionary_134 rfl (by decide) (by decide) rfl rfl ?_
                        refine j_iinc (y := _ + 1) (t := 138) (lv' := [(0, _), (1, _), (2, _), (3, _), (4, _)]) C d_M_dictionary_135 rfl rfl (by decide) (by decide) rfl rfl ?_
                        refine j_goto (tgt := 47) C d_M_dictionary_138 (by decide) ?_
                        refine j_pick [0, 1, 2, 3] rfl ?_
                        have hQ2 : dQ (g_rf s c) p.1 p.2 (e + 1) := by first | exact dQ_n (hs_none h73) hQ | exact dQ_s hx1 ⟨fun z => h93 (s90.1.1.mpr z), fun z => absurd ((sg_le s110.1).mp h113) (Int.not_le.mpr z)⟩ hQ
                        first
                        | (rw [nI_1, nI_1, ← nf_1 (bI_t h125)]; exact ih (e + 1) (by omega) (by omega) hQ2)
                        | (rw [show nI (nfR (g_rf s c) e) + 0 = nI (nfR (g_rf s c) e) from Int32.add_zero _, nI_1, ← nf_0 (bI_0.mp h125)]; exact ih (e + 1) (by omega) (by omega) hQ2)
                    · refine j_iconst (x := 0) (t := 117) C d_M_dictionary_116 rfl rfl ?_
                      exact j_iret C d_M_dictionary_117 (by first | rfl | exact nar_b) (by
                            first
                            | (rw [dict_f2 hcx hkn hp (dct_end (dQ_bad hx1 (fun z => z.1 (s90.1.1.mp h93)) hQ) he)]; exact ⟨rfl, RepM.of M2 hR⟩)
                            | (rw [dict_f2 hcx hkn hp (dct_end (dQ_bad hx1 (fun z => h113 ((sg_le s110.1).mpr (Int.not_lt.mp z.2))) hQ) he)]; exact ⟨rfl, RepM.of M2 hR⟩)) (by omega) (by omega)
          exact loop (g_rc s c + 1) 0 (by omega) (Nat.zero_le _) dQ_0
