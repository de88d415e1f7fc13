set_option maxHeartbeats 4000000 in
set_option maxRecDepth 100000 in
/-- truthOf -/
theorem c_M_truthOf (l : Launch) (o : Nat) (q : Nat → Nat) (m : jM) (s : jS) (k e : Nat) : MC l y_M_truthOf b_M_truthOf 8 (some .int) 1 0 0
    (fun G w av => (av = [.ref o, .int (nI k), .int (nI e)] ∧ MH G w o q m ∧ relM s m ∧ WF s) ∧ k < g_sn s ∧ g_sk s k < 5 ∧ e < g_rc s (g_sc s k) ∧ (g_sk s k = 4 → e < g_rc s (oP s k)))
    (fun G w av r w' => w' = w ∧ r = some (.int (rAt s e k))) := by
  refine MC.of 99 (by decide) ?_
  intro X w av hl C hnm hp
  obtain ⟨hp, hk, hk5, he, he4⟩ := hp
  obtain ⟨rfl, hM, hR, hW⟩ := hp
  obtain ⟨⟨r_tn, r_tp⟩, ⟨r_cc, r_ln, r_sn, r_zn⟩, r_col, r_new, r_sz, r_lit, r_st, r_zt⟩ := id hR
  obtain ⟨wtn, wtp, wcc, wln, wsn, wzn, wcol, wlit, wst, wzt⟩ := id hW
  have hsc := (wst k hk).2.1 hk5
  have hk0 : ¬ g_sk s k < 0 := Int32.not_lt.mpr (wst k hk).1.1
  have hrc := (wcol _ hsc).2.1
  have hrow := ((r_col _ hsc).2.2.2.1 e he).1
  have hty := (r_col _ hsc).1
  refine ⟨[(0, _), (1, _), (2, _)], rfl, Nat.le_of_ble_eq_true rfl, rfl, ?_⟩
  rcases kd_5 hk0 hk5 with hK | hK | hK | hK | hK
  · refine j_sipush (x := nI 1000) (t := 3) C d_M_truthOf_0 rfl rfl ?_
    refine j_aload_n (i := 0) (t := 4) C d_M_truthOf_3 rfl rfl (by first | exact jrv_r | exact jrv_n | exact jrv_f) rfl ?_
    refine j_get (t := 7) C fl_M_61 d_M_truthOf_4 hM.1 rfl rfl ?_
    refine j_iload_n (i := 1) (t := 8) C d_M_truthOf_7 rfl rfl rfl ?_
    refine j_ld_fi (i := k) (t := 9) C d_M_truthOf_8 hM (by first | rfl | simp only [nI_add, nI_mul, nI_1]) (by omega) ((r_st k hk).2.1 hk5) rfl ?_
    refine j_imul (t := 10) C d_M_truthOf_9 rfl ?_
    refine j_iload_n (i := 2) (t := 11) C d_M_truthOf_10 rfl rfl rfl ?_
    refine j_iadd (t := 12) C d_M_truthOf_11 rfl ?_
    rw [nI_mul, nI_add]
    refine j_istore_n (i := 3) (t := 13) (lv' := [(0, _), (1, _), (2, _), (3, _)]) C d_M_truthOf_12 rfl (by decide) (by decide) rfl rfl ?_
    refine j_aload_n (i := 0) (t := 14) C d_M_truthOf_13 rfl rfl (by first | exact jrv_r | exact jrv_n | exact jrv_f) rfl ?_
    refine j_get (t := 17) C fl_M_27 d_M_truthOf_14 hM.1 rfl rfl ?_
    refine j_aload_n (i := 0) (t := 18) C d_M_truthOf_17 rfl rfl (by first | exact jrv_r | exact jrv_n | exact jrv_f) rfl ?_
    refine j_get (t := 21) C fl_M_61 d_M_truthOf_18 hM.1 rfl rfl ?_
    refine j_iload_n (i := 1) (t := 22) C d_M_truthOf_21 rfl rfl rfl ?_
    refine j_ld_fi (i := k) (t := 23) C d_M_truthOf_22 hM (by first | rfl | simp only [nI_add, nI_mul, nI_1]) (by omega) ((r_st k hk).2.1 hk5) rfl ?_
    refine j_ld_ty (i := g_sc s k) (t := 24) C d_M_truthOf_23 hM (by first | rfl | simp only [nI_add, nI_mul, nI_1]) (by omega) (hty) rfl ?_
    refine j_istore (i := 4) (t := 26) (lv' := [(0, _), (1, _), (2, _), (3, _), (4, _)]) C d_M_truthOf_24 (by decide) (by decide) rfl rfl ?_
    refine j_aload_n (i := 0) (t := 27) C d_M_truthOf_26 rfl rfl (by first | exact jrv_r | exact jrv_n | exact jrv_f) rfl ?_
    refine j_get (t := 30) C fl_M_58 d_M_truthOf_27 hM.1 rfl rfl ?_
    refine j_iload_n (i := 1) (t := 31) C d_M_truthOf_30 rfl rfl rfl ?_
    refine j_ld_kd (i := k) (t := 32) C d_M_truthOf_31 hM (by first | rfl | simp only [nI_add, nI_mul, nI_1]) (by omega) ((r_st k hk).1.trans hK) rfl ?_
    refine j_iconst (x := 2) (t := 33) C d_M_truthOf_32 rfl rfl ?_
    refine j_icmp_ge (tgt := 66) (t := 36) C d_M_truthOf_33 (by decide) rfl (fun h33 => absurd h33 (by decide)) (fun h33 => ?_)
    refine j_aload_n (i := 0) (t := 37) C d_M_truthOf_36 rfl rfl (by first | exact jrv_r | exact jrv_n | exact jrv_f) rfl ?_
    refine j_get (t := 40) C fl_M_52 d_M_truthOf_37 hM.1 rfl rfl ?_
    refine j_iload_n (i := 3) (t := 41) C d_M_truthOf_40 rfl rfl rfl ?_
    refine j_ld_has (i := 1000 * g_sc s k + e) (t := 42) C d_M_truthOf_41 hM (by first | rfl | simp only [nI_add, nI_mul, nI_1]) (by omega) (hrow) rfl ?_
    refine j_aload_n (i := 0) (t := 43) C d_M_truthOf_42 rfl rfl (by first | exact jrv_r | exact jrv_n | exact jrv_f) rfl ?_
    refine j_get (t := 46) C fl_M_58 d_M_truthOf_43 hM.1 rfl rfl ?_
    refine j_iload_n (i := 1) (t := 47) C d_M_truthOf_46 rfl rfl rfl ?_
    refine j_ld_kd (i := k) (t := 48) C d_M_truthOf_47 hM (by first | rfl | simp only [nI_add, nI_mul, nI_1]) (by omega) ((r_st k hk).1.trans hK) rfl ?_
    refine j_iconst (x := 1) (t := 49) C d_M_truthOf_48 rfl rfl ?_
    refine j_icmp_ne (tgt := 56) (t := 52) C d_M_truthOf_49 (by decide) rfl (fun h49 => ?_) (fun h49 => absurd h49 (by decide))
    refine j_iconst (x := 0) (t := 57) C d_M_truthOf_56 rfl rfl ?_
    refine j_icmp_ne (tgt := 64) (t := 60) C d_M_truthOf_57 (by decide) rfl (fun h57 => ?_) (fun h57 => ?_)
    · refine j_iconst (x := 1) (t := 65) C d_M_truthOf_64 rfl rfl ?_
      exact j_iret C d_M_truthOf_65 (by first | rfl | exact nar_b) (⟨rfl, by unfold rAt; rw [hK]; first | (rw [hs_none h57]; rfl) | (obtain ⟨x, hx⟩ := hs_some h57; rw [hx]; rfl)⟩) (by omega) (by omega)
    · refine j_iconst (x := 2) (t := 61) C d_M_truthOf_60 rfl rfl ?_
      refine j_goto (tgt := 65) C d_M_truthOf_61 (by decide) ?_
      exact j_iret C d_M_truthOf_65 (by first | rfl | exact nar_b) (⟨rfl, by unfold rAt; rw [hK]; first | (rw [hs_none h57]; rfl) | (obtain ⟨x, hx⟩ := hs_some h57; rw [hx]; rfl)⟩) (by omega) (by omega)
  · refine j_sipush (x := nI 1000) (t := 3) C d_M_truthOf_0 rfl rfl ?_
    refine j_aload_n (i := 0) (t := 4) C d_M_truthOf_3 rfl rfl (by first | exact jrv_r | exact jrv_n | exact jrv_f) rfl ?_
    refine j_get (t := 7) C fl_M_61 d_M_truthOf_4 hM.1 rfl rfl ?_
    refine j_iload_n (i := 1) (t := 8) C d_M_truthOf_7 rfl rfl rfl ?_
    refine j_ld_fi (i := k) (t := 9) C d_M_truthOf_8 hM (by first | rfl | simp only [nI_add, nI_mul, nI_1]) (by omega) ((r_st k hk).2.1 hk5) rfl ?_
    refine j_imul (t := 10) C d_M_truthOf_9 rfl ?_
    refine j_iload_n (i := 2) (t := 11) C d_M_truthOf_10 rfl rfl rfl ?_
    refine j_iadd (t := 12) C d_M_truthOf_11 rfl ?_
    rw [nI_mul, nI_add]
    refine j_istore_n (i := 3) (t := 13) (lv' := [(0, _), (1, _), (2, _), (3, _)]) C d_M_truthOf_12 rfl (by decide) (by decide) rfl rfl ?_
    refine j_aload_n (i := 0) (t := 14) C d_M_truthOf_13 rfl rfl (by first | exact jrv_r | exact jrv_n | exact jrv_f) rfl ?_
    refine j_get (t := 17) C fl_M_27 d_M_truthOf_14 hM.1 rfl rfl ?_
    refine j_aload_n (i := 0) (t := 18) C d_M_truthOf_17 rfl rfl (by first | exact jrv_r | exact jrv_n | exact jrv_f) rfl ?_
    refine j_get (t := 21) C fl_M_61 d_M_truthOf_18 hM.1 rfl rfl ?_
    refine j_iload_n (i := 1) (t := 22) C d_M_truthOf_21 rfl rfl rfl ?_
    refine j_ld_fi (i := k) (t := 23) C d_M_truthOf_22 hM (by first | rfl | simp only [nI_add, nI_mul, nI_1]) (by omega) ((r_st k hk).2.1 hk5) rfl ?_
    refine j_ld_ty (i := g_sc s k) (t := 24) C d_M_truthOf_23 hM (by first | rfl | simp only [nI_add, nI_mul, nI_1]) (by omega) (hty) rfl ?_
    refine j_istore (i := 4) (t := 26) (lv' := [(0, _), (1, _), (2, _), (3, _), (4, _)]) C d_M_truthOf_24 (by decide) (by decide) rfl rfl ?_
    refine j_aload_n (i := 0) (t := 27) C d_M_truthOf_26 rfl rfl (by first | exact jrv_r | exact jrv_n | exact jrv_f) rfl ?_
    refine j_get (t := 30) C fl_M_58 d_M_truthOf_27 hM.1 rfl rfl ?_
    refine j_iload_n (i := 1) (t := 31) C d_M_truthOf_30 rfl rfl rfl ?_
    refine j_ld_kd (i := k) (t := 32) C d_M_truthOf_31 hM (by first | rfl | simp only [nI_add, nI_mul, nI_1]) (by omega) ((r_st k hk).1.trans hK) rfl ?_
    refine j_iconst (x := 2) (t := 33) C d_M_truthOf_32 rfl rfl ?_
    refine j_icmp_ge (tgt := 66) (t := 36) C d_M_truthOf_33 (by decide) rfl (fun h33 => absurd h33 (by decide)) (fun h33 => ?_)
    refine j_aload_n (i := 0) (t := 37) C d_M_truthOf_36 rfl rfl (by first | exact jrv_r | exact jrv_n | exact jrv_f) rfl ?_
    refine j_get (t := 40) C fl_M_52 d_M_truthOf_37 hM.1 rfl rfl ?_
    refine j_iload_n (i := 3) (t := 41) C d_M_truthOf_40 rfl rfl rfl ?_
    refine j_ld_has (i := 1000 * g_sc s k + e) (t := 42) C d_M_truthOf_41 hM (by first | rfl | simp only [nI_add, nI_mul, nI_1]) (by omega) (hrow) rfl ?_
    refine j_aload_n (i := 0) (t := 43) C d_M_truthOf_42 rfl rfl (by first | exact jrv_r | exact jrv_n | exact jrv_f) rfl ?_
    refine j_get (t := 46) C fl_M_58 d_M_truthOf_43 hM.1 rfl rfl ?_
    refine j_iload_n (i := 1) (t := 47) C d_M_truthOf_46 rfl rfl rfl ?_
    refine j_ld_kd (i := k) (t := 48) C d_M_truthOf_47 hM (by first | rfl | simp only [nI_add, nI_mul, nI_1]) (by omega) ((r_st k hk).1.trans hK) rfl ?_
    refine j_iconst (x := 1) (t := 49) C d_M_truthOf_48 rfl rfl ?_
    refine j_icmp_ne (tgt := 56) (t := 52) C d_M_truthOf_49 (by decide) rfl (fun h49 => absurd h49 (by decide)) (fun h49 => ?_)
    refine j_iconst (x := 1) (t := 53) C d_M_truthOf_52 rfl rfl ?_
    refine j_goto (tgt := 57) C d_M_truthOf_53 (by decide) ?_
    refine j_icmp_ne (tgt := 64) (t := 60) C d_M_truthOf_57 (by decide) rfl (fun h57 => ?_) (fun h57 => ?_)
    · refine j_iconst (x := 1) (t := 65) C d_M_truthOf_64 rfl rfl ?_
      exact j_iret C d_M_truthOf_65 (by first | rfl | exact nar_b) (⟨rfl, by unfold rAt; rw [hK]; cases hx : g_rf s (g_sc s k) e with | none => (first | rfl | (rw [hx] at h57; exact absurd h57 (by decide))) | some x => (first | rfl | (rw [hx] at h57; exact absurd rfl h57))⟩) (by omega) (by omega)
    · refine j_iconst (x := 2) (t := 61) C d_M_truthOf_60 rfl rfl ?_
      refine j_goto (tgt := 65) C d_M_truthOf_61 (by decide) ?_
      exact j_iret C d_M_truthOf_65 (by first | rfl | exact nar_b) (⟨rfl, by unfold rAt; rw [hK]; cases hx : g_rf s (g_sc s k) e with | none => (first | rfl | (rw [hx] at h57; exact absurd h57 (by decide))) | some x => (first | rfl | (rw [hx] at h57; exact absurd rfl h57))⟩) (by omega) (by omega)
  · obtain ⟨-, P, N1, eP, eN, hoP, hoM, hPN, hN1, hlt⟩ := st_2 hW hk hK
    have loop : ∀ x, g_rf s (g_sc s k) e = some x → ∀ (qq n : Nat) (b : Bool), N1 + 1 ≤ n + qq → n ≤ N1 → b = amg x (g_lit s) P n → J X (8, 99) (jQ X (fun r w' => w' = w ∧ r = some (.int (rAt s e k))) 0 0) w 0 0 177 [(0, .ref o), (1, .int (nI k)), (2, .int (nI e)), (3, .int (nI (1000 * g_sc s k + e))), (4, .int (g_ty s (g_sc s k))), (5, .int (nI (17632 + P))), (6, .int (bI b)), (7, .int (nI n))] [] := by
      intro x hx qq
      induction qq with
      | zero => intro n b h1 h2; omega
      | succ qq ih =>
        intro n b hn1 hn2 hb
        refine j_iload (t := 179) C d_M_truthOf_177 rfl rfl ?_
        refine j_aload_n (i := 0) (t := 180) C d_M_truthOf_179 rfl rfl (by first | exact jrv_r | exact jrv_n | exact jrv_f) rfl ?_
        refine j_get (t := 183) C fl_M_70 d_M_truthOf_180 hM.1 rfl rfl ?_
        refine j_iload_n (i := 1) (t := 184) C d_M_truthOf_183 rfl rfl rfl ?_
        refine j_ld_mn (i := k) (t := 185) C d_M_truthOf_184 hM (by first | rfl | simp only [nI_add, nI_mul, nI_1]) (by omega) ((r_st k hk).2.2.2.2.trans eN) rfl ?_
        refine j_icmp_ge (tgt := 221) (t := 188) C d_M_truthOf_185 (by decide) rfl (fun h185 => ?_) (fun h185 => ?_)
        · refine j_iload (t := 223) C d_M_truthOf_221 rfl rfl ?_
          refine j_if_eq (tgt := 230) (t := 226) C d_M_truthOf_223 (by decide) rfl (fun h223 => ?_) (fun h223 => ?_)
          · refine j_iconst (x := 1) (t := 231) C d_M_truthOf_230 rfl rfl ?_
            exact j_iret C d_M_truthOf_231 (by first | rfl | exact nar_b) (⟨rfl, by rw [nI_leI (by omega) (by omega)] at h185; rw [show n = N1 by omega] at hb; unfold rAt; rw [hK, hx, hoP, hoM]; first | (rw [bI_0] at h223; rw [h223] at hb; show _ = some (Value.int (bif amg x (g_lit s) P N1 then 2 else 1)); rw [← hb]; rfl) | (rw [bI_0, Bool.not_eq_false] at h223; rw [h223] at hb; show _ = some (Value.int (bif amg x (g_lit s) P N1 then 2 else 1)); rw [← hb]; rfl)⟩) (by omega) (by omega)
          · refine j_iconst (x := 2) (t := 227) C d_M_truthOf_226 rfl rfl ?_
            refine j_goto (tgt := 231) C d_M_truthOf_227 (by decide) ?_
            exact j_iret C d_M_truthOf_231 (by first | rfl | exact nar_b) (⟨rfl, by rw [nI_leI (by omega) (by omega)] at h185; rw [show n = N1 by omega] at hb; unfold rAt; rw [hK, hx, hoP, hoM]; first | (rw [bI_0] at h223; rw [h223] at hb; show _ = some (Value.int (bif amg x (g_lit s) P N1 then 2 else 1)); rw [← hb]; rfl) | (rw [bI_0, Bool.not_eq_false] at h223; rw [h223] at hb; show _ = some (Value.int (bif amg x (g_lit s) P N1 then 2 else 1)); rw [← hb]; rfl)⟩) (by omega) (by omega)
        · rw [nI_leI (by omega) (by omega)] at h185
          refine j_iload (t := 190) C d_M_truthOf_188 rfl rfl ?_
          refine j_if_ne (tgt := 208) (t := 193) C d_M_truthOf_190 (by decide) rfl (fun h190 => ?_) (fun h190 => ?_)
          · refine j_iconst (x := 1) (t := 209) C d_M_truthOf_208 rfl rfl ?_
            refine j_goto (tgt := 213) C d_M_truthOf_209 (by decide) ?_
            refine j_istore (i := 6) (t := 215) (lv' := [(0, _), (1, _), (2, _), (3, _), (4, _), (5, _), (6, _), (7, _)]) C d_M_truthOf_213 (by decide) (by decide) rfl rfl ?_
            refine j_iinc (y := _ + 1) (t := 218) (lv' := [(0, _), (1, _), (2, _), (3, _), (4, _), (5, _), (6, _), (7, _)]) C d_M_truthOf_215 rfl rfl (by decide) (by decide) rfl rfl ?_
            refine j_goto (tgt := 177) C d_M_truthOf_218 (by decide) ?_
            rw [nI_1]
            first
            | (rw [bI_0, Bool.not_eq_false] at h190; exact ih (n + 1) true (by omega) (by omega) (amg_0 (hb.symm.trans h190)).symm)
            | exact ih (n + 1) true (by omega) (by omega) (amg_true (i := n) (by omega) (s202.1.2.mp h205)).symm
            | (rw [bI_0] at h190; exact ih (n + 1) false (by omega) (by omega) (amg_next (hb.symm.trans h190) (fun z => h205 (s202.1.2.mpr z))).symm)
          · refine j_aload_n (i := 0) (t := 194) C d_M_truthOf_193 rfl rfl (by first | exact jrv_r | exact jrv_n | exact jrv_f) rfl ?_
            refine j_iload (t := 196) C d_M_truthOf_194 rfl rfl ?_
            refine j_iload_n (i := 3) (t := 197) C d_M_truthOf_196 rfl rfl rfl ?_
            refine j_iload (t := 199) C d_M_truthOf_197 rfl rfl ?_
            refine j_iload (t := 201) C d_M_truthOf_199 rfl rfl ?_
            refine j_iadd (t := 202) C d_M_truthOf_201 rfl ?_
            rw [nI_add, Nat.add_assoc]
            refine j_callV (As := [_, _, _]) (t := 205) C (c_M_cmp _ o q m (g_ty s (g_sc s k)) (1000 * g_sc s k + e) (17632 + (P + n)) (x) (g_lit s (P + n))) d_M_truthOf_202 jb_M_compare ml_M_116 jv_M_compare hM.1 rfl rfl rfl (Nat.le_of_ble_eq_true rfl) (by decide) (by omega) (by omega) (⟨rfl, hM, row_ok hR hW hsc he hx, lit_ok hR hW (by omega) (hlt (P + n) (by omega) (by omega))⟩) rfl (fun r202 w202 p202 => ?_)
            obtain ⟨rfl, z202, rfl, s202⟩ := p202
            dsimp only [jst]
            refine j_if_ne (tgt := 212) (t := 208) C d_M_truthOf_205 (by decide) rfl (fun h205 => ?_) (fun h205 => ?_)
            · refine j_iconst (x := 0) (t := 213) C d_M_truthOf_212 rfl rfl ?_
              refine j_istore (i := 6) (t := 215) (lv' := [(0, _), (1, _), (2, _), (3, _), (4, _), (5, _), (6, _), (7, _)]) C d_M_truthOf_213 (by decide) (by decide) rfl rfl ?_
              refine j_iinc (y := _ + 1) (t := 218) (lv' := [(0, _), (1, _), (2, _), (3, _), (4, _), (5, _), (6, _), (7, _)]) C d_M_truthOf_215 rfl rfl (by decide) (by decide) rfl rfl ?_
              refine j_goto (tgt := 177) C d_M_truthOf_218 (by decide) ?_
              rw [nI_1]
              first
              | (rw [bI_0, Bool.not_eq_false] at h190; exact ih (n + 1) true (by omega) (by omega) (amg_0 (hb.symm.trans h190)).symm)
              | exact ih (n + 1) true (by omega) (by omega) (amg_true (i := n) (by omega) (s202.1.2.mp h205)).symm
              | (rw [bI_0] at h190; exact ih (n + 1) false (by omega) (by omega) (amg_next (hb.symm.trans h190) (fun z => h205 (s202.1.2.mpr z))).symm)
            · refine j_iconst (x := 1) (t := 209) C d_M_truthOf_208 rfl rfl ?_
              refine j_goto (tgt := 213) C d_M_truthOf_209 (by decide) ?_
              refine j_istore (i := 6) (t := 215) (lv' := [(0, _), (1, _), (2, _), (3, _), (4, _), (5, _), (6, _), (7, _)]) C d_M_truthOf_213 (by decide) (by decide) rfl rfl ?_
              refine j_iinc (y := _ + 1) (t := 218) (lv' := [(0, _), (1, _), (2, _), (3, _), (4, _), (5, _), (6, _), (7, _)]) C d_M_truthOf_215 rfl rfl (by decide) (by decide) rfl rfl ?_
              refine j_goto (tgt := 177) C d_M_truthOf_218 (by decide) ?_
              rw [nI_1]
              first
              | (rw [bI_0, Bool.not_eq_false] at h190; exact ih (n + 1) true (by omega) (by omega) (amg_0 (hb.symm.trans h190)).symm)
              | exact ih (n + 1) true (by omega) (by omega) (amg_true (i := n) (by omega) (s202.1.2.mp h205)).symm
              | (rw [bI_0] at h190; exact ih (n + 1) false (by omega) (by omega) (amg_next (hb.symm.trans h190) (fun z => h205 (s202.1.2.mpr z))).symm)
    refine j_sipush (x := nI 1000) (t := 3) C d_M_truthOf_0 rfl rfl ?_
    refine j_aload_n (i := 0) (t := 4) C d_M_truthOf_3 rfl rfl (by first | exact jrv_r | exact jrv_n | exact jrv_f) rfl ?_
    refine j_get (t := 7) C fl_M_61 d_M_truthOf_4 hM.1 rfl rfl ?_
    refine j_iload_n (i := 1) (t := 8) C d_M_truthOf_7 rfl rfl rfl ?_
    refine j_ld_fi (i := k) (t := 9) C d_M_truthOf_8 hM (by first | rfl | simp only [nI_add, nI_mul, nI_1]) (by omega) ((r_st k hk).2.1 hk5) rfl ?_
    refine j_imul (t := 10) C d_M_truthOf_9 rfl ?_
    refine j_iload_n (i := 2) (t := 11) C d_M_truthOf_10 rfl rfl rfl ?_
    refine j_iadd (t := 12) C d_M_truthOf_11 rfl ?_
    rw [nI_mul, nI_add]
    refine j_istore_n (i := 3) (t := 13) (lv' := [(0, _), (1, _), (2, _), (3, _)]) C d_M_truthOf_12 rfl (by decide) (by decide) rfl rfl ?_
    refine j_aload_n (i := 0) (t := 14) C d_M_truthOf_13 rfl rfl (by first | exact jrv_r | exact jrv_n | exact jrv_f) rfl ?_
    refine j_get (t := 17) C fl_M_27 d_M_truthOf_14 hM.1 rfl rfl ?_
    refine j_aload_n (i := 0) (t := 18) C d_M_truthOf_17 rfl rfl (by first | exact jrv_r | exact jrv_n | exact jrv_f) rfl ?_
    refine j_get (t := 21) C fl_M_61 d_M_truthOf_18 hM.1 rfl rfl ?_
    refine j_iload_n (i := 1) (t := 22) C d_M_truthOf_21 rfl rfl rfl ?_
    refine j_ld_fi (i := k) (t := 23) C d_M_truthOf_22 hM (by first | rfl | simp only [nI_add, nI_mul, nI_1]) (by omega) ((r_st k hk).2.1 hk5) rfl ?_
    refine j_ld_ty (i := g_sc s k) (t := 24) C d_M_truthOf_23 hM (by first | rfl | simp only [nI_add, nI_mul, nI_1]) (by omega) (hty) rfl ?_
    refine j_istore (i := 4) (t := 26) (lv' := [(0, _), (1, _), (2, _), (3, _), (4, _)]) C d_M_truthOf_24 (by decide) (by decide) rfl rfl ?_
    refine j_aload_n (i := 0) (t := 27) C d_M_truthOf_26 rfl rfl (by first | exact jrv_r | exact jrv_n | exact jrv_f) rfl ?_
    refine j_get (t := 30) C fl_M_58 d_M_truthOf_27 hM.1 rfl rfl ?_
    refine j_iload_n (i := 1) (t := 31) C d_M_truthOf_30 rfl rfl rfl ?_
    refine j_ld_kd (i := k) (t := 32) C d_M_truthOf_31 hM (by first | rfl | simp only [nI_add, nI_mul, nI_1]) (by omega) ((r_st k hk).1.trans hK) rfl ?_
    refine j_iconst (x := 2) (t := 33) C d_M_truthOf_32 rfl rfl ?_
    refine j_icmp_ge (tgt := 66) (t := 36) C d_M_truthOf_33 (by decide) rfl (fun h33 => ?_) (fun h33 => absurd h33 (by decide))
    refine j_aload_n (i := 0) (t := 67) C d_M_truthOf_66 rfl rfl (by first | exact jrv_r | exact jrv_n | exact jrv_f) rfl ?_
    refine j_get (t := 70) C fl_M_58 d_M_truthOf_67 hM.1 rfl rfl ?_
    refine j_iload_n (i := 1) (t := 71) C d_M_truthOf_70 rfl rfl rfl ?_
    refine j_ld_kd (i := k) (t := 72) C d_M_truthOf_71 hM (by first | rfl | simp only [nI_add, nI_mul, nI_1]) (by omega) ((r_st k hk).1.trans hK) rfl ?_
    refine j_iconst (x := 4) (t := 73) C d_M_truthOf_72 rfl rfl ?_
    refine j_icmp_ne (tgt := 91) (t := 76) C d_M_truthOf_73 (by decide) rfl (fun h73 => ?_) (fun h73 => absurd h73 (by decide))
    refine j_sipush (x := nI 17632) (t := 94) C d_M_truthOf_91 rfl rfl ?_
    refine j_aload_n (i := 0) (t := 95) C d_M_truthOf_94 rfl rfl (by first | exact jrv_r | exact jrv_n | exact jrv_f) rfl ?_
    refine j_get (t := 98) C fl_M_67 d_M_truthOf_95 hM.1 rfl rfl ?_
    refine j_iload_n (i := 1) (t := 99) C d_M_truthOf_98 rfl rfl rfl ?_
    refine j_ld_ot (i := k) (t := 100) C d_M_truthOf_99 hM (by first | rfl | simp only [nI_add, nI_mul, nI_1]) (by omega) ((r_st k hk).2.2.2.1.trans eP) rfl ?_
    refine j_iadd (t := 101) C d_M_truthOf_100 rfl ?_
    rw [nI_add]
    refine j_istore (i := 5) (t := 103) (lv' := [(0, _), (1, _), (2, _), (3, _), (4, _), (5, _)]) C d_M_truthOf_101 (by decide) (by decide) rfl rfl ?_
    refine j_aload_n (i := 0) (t := 104) C d_M_truthOf_103 rfl rfl (by first | exact jrv_r | exact jrv_n | exact jrv_f) rfl ?_
    refine j_get (t := 107) C fl_M_52 d_M_truthOf_104 hM.1 rfl rfl ?_
    refine j_iload_n (i := 3) (t := 108) C d_M_truthOf_107 rfl rfl rfl ?_
    refine j_ld_has (i := 1000 * g_sc s k + e) (t := 109) C d_M_truthOf_108 hM (by first | rfl | simp only [nI_add, nI_mul, nI_1]) (by omega) (hrow) rfl ?_
    refine j_if_eq (tgt := 132) (t := 112) C d_M_truthOf_109 (by decide) rfl (fun h109 => ?_) (fun h109 => ?_)
    · refine j_iconst (x := 4) (t := 133) C d_M_truthOf_132 rfl rfl ?_
      exact j_iret C d_M_truthOf_133 (by first | rfl | exact nar_b) (⟨rfl, by unfold rAt; rw [hK, hs_none h109]; rfl⟩) (by omega) (by omega)
    · refine j_aload_n (i := 0) (t := 113) C d_M_truthOf_112 rfl rfl (by first | exact jrv_r | exact jrv_n | exact jrv_f) rfl ?_
      refine j_get (t := 116) C fl_M_58 d_M_truthOf_113 hM.1 rfl rfl ?_
      refine j_iload_n (i := 1) (t := 117) C d_M_truthOf_116 rfl rfl rfl ?_
      refine j_ld_kd (i := k) (t := 118) C d_M_truthOf_117 hM (by first | rfl | simp only [nI_add, nI_mul, nI_1]) (by omega) ((r_st k hk).1.trans hK) rfl ?_
      refine j_iconst (x := 4) (t := 119) C d_M_truthOf_118 rfl rfl ?_
      refine j_icmp_ne (tgt := 134) (t := 122) C d_M_truthOf_119 (by decide) rfl (fun h119 => ?_) (fun h119 => absurd h119 (by decide))
      refine j_aload_n (i := 0) (t := 135) C d_M_truthOf_134 rfl rfl (by first | exact jrv_r | exact jrv_n | exact jrv_f) rfl ?_
      refine j_get (t := 138) C fl_M_58 d_M_truthOf_135 hM.1 rfl rfl ?_
      refine j_iload_n (i := 1) (t := 139) C d_M_truthOf_138 rfl rfl rfl ?_
      refine j_ld_kd (i := k) (t := 140) C d_M_truthOf_139 hM (by first | rfl | simp only [nI_add, nI_mul, nI_1]) (by omega) ((r_st k hk).1.trans hK) rfl ?_
      refine j_iconst (x := 2) (t := 141) C d_M_truthOf_140 rfl rfl ?_
      refine j_icmp_le (tgt := 171) (t := 144) C d_M_truthOf_141 (by decide) rfl (fun h141 => ?_) (fun h141 => absurd h141 (by decide))
      refine j_iconst (x := 0) (t := 172) C d_M_truthOf_171 rfl rfl ?_
      refine j_istore (i := 6) (t := 174) (lv' := [(0, _), (1, _), (2, _), (3, _), (4, _), (5, _), (6, _)]) C d_M_truthOf_172 (by decide) (by decide) rfl rfl ?_
      refine j_iconst (x := 0) (t := 175) C d_M_truthOf_174 rfl rfl ?_
      refine j_istore (i := 7) (t := 177) (lv' := [(0, _), (1, _), (2, _), (3, _), (4, _), (5, _), (6, _), (7, _)]) C d_M_truthOf_175 (by decide) (by decide) rfl rfl ?_
      obtain ⟨x, hx⟩ := hs_some h109
      exact loop x hx (N1 + 1) 0 false (by omega) (Nat.zero_le _) rfl
  · obtain ⟨-, ⟨ho1, ho5⟩, P, eP, hoP, hPl, hlt⟩ := st_3 hW hk hK
    refine j_sipush (x := nI 1000) (t := 3) C d_M_truthOf_0 rfl rfl ?_
    refine j_aload_n (i := 0) (t := 4) C d_M_truthOf_3 rfl rfl (by first | exact jrv_r | exact jrv_n | exact jrv_f) rfl ?_
    refine j_get (t := 7) C fl_M_61 d_M_truthOf_4 hM.1 rfl rfl ?_
    refine j_iload_n (i := 1) (t := 8) C d_M_truthOf_7 rfl rfl rfl ?_
    refine j_ld_fi (i := k) (t := 9) C d_M_truthOf_8 hM (by first | rfl | simp only [nI_add, nI_mul, nI_1]) (by omega) ((r_st k hk).2.1 hk5) rfl ?_
    refine j_imul (t := 10) C d_M_truthOf_9 rfl ?_
    refine j_iload_n (i := 2) (t := 11) C d_M_truthOf_10 rfl rfl rfl ?_
    refine j_iadd (t := 12) C d_M_truthOf_11 rfl ?_
    rw [nI_mul, nI_add]
    refine j_istore_n (i := 3) (t := 13) (lv' := [(0, _), (1, _), (2, _), (3, _)]) C d_M_truthOf_12 rfl (by decide) (by decide) rfl rfl ?_
    refine j_aload_n (i := 0) (t := 14) C d_M_truthOf_13 rfl rfl (by first | exact jrv_r | exact jrv_n | exact jrv_f) rfl ?_
    refine j_get (t := 17) C fl_M_27 d_M_truthOf_14 hM.1 rfl rfl ?_
    refine j_aload_n (i := 0) (t := 18) C d_M_truthOf_17 rfl rfl (by first | exact jrv_r | exact jrv_n | exact jrv_f) rfl ?_
    refine j_get (t := 21) C fl_M_61 d_M_truthOf_18 hM.1 rfl rfl ?_
    refine j_iload_n (i := 1) (t := 22) C d_M_truthOf_21 rfl rfl rfl ?_
    refine j_ld_fi (i := k) (t := 23) C d_M_truthOf_22 hM (by first | rfl | simp only [nI_add, nI_mul, nI_1]) (by omega) ((r_st k hk).2.1 hk5) rfl ?_
    refine j_ld_ty (i := g_sc s k) (t := 24) C d_M_truthOf_23 hM (by first | rfl | simp only [nI_add, nI_mul, nI_1]) (by omega) (hty) rfl ?_
    refine j_istore (i := 4) (t := 26) (lv' := [(0, _), (1, _), (2, _), (3, _), (4, _)]) C d_M_truthOf_24 (by decide) (by decide) rfl rfl ?_
    refine j_aload_n (i := 0) (t := 27) C d_M_truthOf_26 rfl rfl (by first | exact jrv_r | exact jrv_n | exact jrv_f) rfl ?_
    refine j_get (t := 30) C fl_M_58 d_M_truthOf_27 hM.1 rfl rfl ?_
    refine j_iload_n (i := 1) (t := 31) C d_M_truthOf_30 rfl rfl rfl ?_
    refine j_ld_kd (i := k) (t := 32) C d_M_truthOf_31 hM (by first | rfl | simp only [nI_add, nI_mul, nI_1]) (by omega) ((r_st k hk).1.trans hK) rfl ?_
    refine j_iconst (x := 2) (t := 33) C d_M_truthOf_32 rfl rfl ?_
    refine j_icmp_ge (tgt := 66) (t := 36) C d_M_truthOf_33 (by decide) rfl (fun h33 => ?_) (fun h33 => absurd h33 (by decide))
    refine j_aload_n (i := 0) (t := 67) C d_M_truthOf_66 rfl rfl (by first | exact jrv_r | exact jrv_n | exact jrv_f) rfl ?_
    refine j_get (t := 70) C fl_M_58 d_M_truthOf_67 hM.1 rfl rfl ?_
    refine j_iload_n (i := 1) (t := 71) C d_M_truthOf_70 rfl rfl rfl ?_
    refine j_ld_kd (i := k) (t := 72) C d_M_truthOf_71 hM (by first | rfl | simp only [nI_add, nI_mul, nI_1]) (by omega) ((r_st k hk).1.trans hK) rfl ?_
    refine j_iconst (x := 4) (t := 73) C d_M_truthOf_72 rfl rfl ?_
    refine j_icmp_ne (tgt := 91) (t := 76) C d_M_truthOf_73 (by decide) rfl (fun h73 => ?_) (fun h73 => absurd h73 (by decide))
    refine j_sipush (x := nI 17632) (t := 94) C d_M_truthOf_91 rfl rfl ?_
    refine j_aload_n (i := 0) (t := 95) C d_M_truthOf_94 rfl rfl (by first | exact jrv_r | exact jrv_n | exact jrv_f) rfl ?_
    refine j_get (t := 98) C fl_M_67 d_M_truthOf_95 hM.1 rfl rfl ?_
    refine j_iload_n (i := 1) (t := 99) C d_M_truthOf_98 rfl rfl rfl ?_
    refine j_ld_ot (i := k) (t := 100) C d_M_truthOf_99 hM (by first | rfl | simp only [nI_add, nI_mul, nI_1]) (by omega) ((r_st k hk).2.2.2.1.trans eP) rfl ?_
    refine j_iadd (t := 101) C d_M_truthOf_100 rfl ?_
    rw [nI_add]
    refine j_istore (i := 5) (t := 103) (lv' := [(0, _), (1, _), (2, _), (3, _), (4, _), (5, _)]) C d_M_truthOf_101 (by decide) (by decide) rfl rfl ?_
    refine j_aload_n (i := 0) (t := 104) C d_M_truthOf_103 rfl rfl (by first | exact jrv_r | exact jrv_n | exact jrv_f) rfl ?_
    refine j_get (t := 107) C fl_M_52 d_M_truthOf_104 hM.1 rfl rfl ?_
    refine j_iload_n (i := 3) (t := 108) C d_M_truthOf_107 rfl rfl rfl ?_
    refine j_ld_has (i := 1000 * g_sc s k + e) (t := 109) C d_M_truthOf_108 hM (by first | rfl | simp only [nI_add, nI_mul, nI_1]) (by omega) (hrow) rfl ?_
    refine j_if_eq (tgt := 132) (t := 112) C d_M_truthOf_109 (by decide) rfl (fun h109 => ?_) (fun h109 => ?_)
    · refine j_iconst (x := 4) (t := 133) C d_M_truthOf_132 rfl rfl ?_
      exact j_iret C d_M_truthOf_133 (by first | rfl | exact nar_b) (⟨rfl, by unfold rAt; rw [hK, hs_none h109]; rfl⟩) (by omega) (by omega)
    · refine j_aload_n (i := 0) (t := 113) C d_M_truthOf_112 rfl rfl (by first | exact jrv_r | exact jrv_n | exact jrv_f) rfl ?_
      refine j_get (t := 116) C fl_M_58 d_M_truthOf_113 hM.1 rfl rfl ?_
      refine j_iload_n (i := 1) (t := 117) C d_M_truthOf_116 rfl rfl rfl ?_
      refine j_ld_kd (i := k) (t := 118) C d_M_truthOf_117 hM (by first | rfl | simp only [nI_add, nI_mul, nI_1]) (by omega) ((r_st k hk).1.trans hK) rfl ?_
      refine j_iconst (x := 4) (t := 119) C d_M_truthOf_118 rfl rfl ?_
      refine j_icmp_ne (tgt := 134) (t := 122) C d_M_truthOf_119 (by decide) rfl (fun h119 => ?_) (fun h119 => absurd h119 (by decide))
      refine j_aload_n (i := 0) (t := 135) C d_M_truthOf_134 rfl rfl (by first | exact jrv_r | exact jrv_n | exact jrv_f) rfl ?_
      refine j_get (t := 138) C fl_M_58 d_M_truthOf_135 hM.1 rfl rfl ?_
      refine j_iload_n (i := 1) (t := 139) C d_M_truthOf_138 rfl rfl rfl ?_
      refine j_ld_kd (i := k) (t := 140) C d_M_truthOf_139 hM (by first | rfl | simp only [nI_add, nI_mul, nI_1]) (by omega) ((r_st k hk).1.trans hK) rfl ?_
      refine j_iconst (x := 2) (t := 141) C d_M_truthOf_140 rfl rfl ?_
      refine j_icmp_le (tgt := 171) (t := 144) C d_M_truthOf_141 (by decide) rfl (fun h141 => absurd h141 (by decide)) (fun h141 => ?_)
      obtain ⟨x, hx⟩ := hs_some h109
      refine j_aload_n (i := 0) (t := 145) C d_M_truthOf_144 rfl rfl (by first | exact jrv_r | exact jrv_n | exact jrv_f) rfl ?_
      refine j_get (t := 148) C fl_M_64 d_M_truthOf_145 hM.1 rfl rfl ?_
      refine j_iload_n (i := 1) (t := 149) C d_M_truthOf_148 rfl rfl rfl ?_
      refine j_ld_op (i := k) (t := 150) C d_M_truthOf_149 hM (by first | rfl | simp only [nI_add, nI_mul, nI_1]) (by omega) ((r_st k hk).2.2.1) rfl ?_
      refine j_aload_n (i := 0) (t := 151) C d_M_truthOf_150 rfl rfl (by first | exact jrv_r | exact jrv_n | exact jrv_f) rfl ?_
      refine j_iload (t := 153) C d_M_truthOf_151 rfl rfl ?_
      refine j_iload_n (i := 3) (t := 154) C d_M_truthOf_153 rfl rfl rfl ?_
      refine j_iload (t := 156) C d_M_truthOf_154 rfl rfl ?_
      refine j_callV (As := [_, _, _]) (t := 159) C (c_M_cmp _ o q m (g_ty s (g_sc s k)) (1000 * g_sc s k + e) (17632 + P) (x) (g_lit s P)) d_M_truthOf_156 jb_M_compare ml_M_116 jv_M_compare hM.1 rfl rfl rfl (Nat.le_of_ble_eq_true rfl) (by decide) (by omega) (by omega) (⟨rfl, hM, row_ok hR hW hsc he hx, lit_ok hR hW hPl hlt⟩) rfl (fun r156 w156 p156 => ?_)
      obtain ⟨rfl, z156, rfl, s156⟩ := p156
      dsimp only [jst]
      refine j_callS (As := [_, _]) (t := 162) C (c_M_holds _ (g_so s k) z156) d_M_truthOf_159 jb_M_holds ml_M_120 st_M_holds rfl (Nat.le_of_ble_eq_true rfl) (by decide) (by omega) (by omega) (rfl) rfl (fun r159 w159 p159 => ?_)
      obtain ⟨rfl, rfl⟩ := p159
      dsimp only [jst]
      rw [hO_sg s156.1]
      refine j_if_eq (tgt := 169) (t := 165) C d_M_truthOf_162 (by decide) rfl (fun h162 => ?_) (fun h162 => ?_)
      · refine j_iconst (x := 1) (t := 170) C d_M_truthOf_169 rfl rfl ?_
        exact j_iret C d_M_truthOf_170 (by first | rfl | exact nar_b) (⟨rfl, by unfold rAt; rw [hK, hx, hoP]; first | (rw [bI_0] at h162; show _ = some (Value.int (bif hV (g_so s k) (vc x (g_lit s P)) then 2 else 1)); rw [h162]; rfl) | (rw [bI_0, Bool.not_eq_false] at h162; show _ = some (Value.int (bif hV (g_so s k) (vc x (g_lit s P)) then 2 else 1)); rw [h162]; rfl)⟩) (by omega) (by omega)
      · refine j_iconst (x := 2) (t := 166) C d_M_truthOf_165 rfl rfl ?_
        refine j_goto (tgt := 170) C d_M_truthOf_166 (by decide) ?_
        exact j_iret C d_M_truthOf_170 (by first | rfl | exact nar_b) (⟨rfl, by unfold rAt; rw [hK, hx, hoP]; first | (rw [bI_0] at h162; show _ = some (Value.int (bif hV (g_so s k) (vc x (g_lit s P)) then 2 else 1)); rw [h162]; rfl) | (rw [bI_0, Bool.not_eq_false] at h162; show _ = some (Value.int (bif hV (g_so s k) (vc x (g_lit s P)) then 2 else 1)); rw [h162]; rfl)⟩) (by omega) (by omega)
  · obtain ⟨-, ⟨ho1, ho5⟩, P, eP, hoP, hPl, hlt⟩ := st_4 hW hk hK
    have he4 := he4 hK
    rw [hoP] at he4
    have hrow2 := ((r_col P hPl).2.2.2.1 e he4).1
    have hrc2 := (wcol P hPl).2.1
    refine j_sipush (x := nI 1000) (t := 3) C d_M_truthOf_0 rfl rfl ?_
    refine j_aload_n (i := 0) (t := 4) C d_M_truthOf_3 rfl rfl (by first | exact jrv_r | exact jrv_n | exact jrv_f) rfl ?_
    refine j_get (t := 7) C fl_M_61 d_M_truthOf_4 hM.1 rfl rfl ?_
    refine j_iload_n (i := 1) (t := 8) C d_M_truthOf_7 rfl rfl rfl ?_
    refine j_ld_fi (i := k) (t := 9) C d_M_truthOf_8 hM (by first | rfl | simp only [nI_add, nI_mul, nI_1]) (by omega) ((r_st k hk).2.1 hk5) rfl ?_
    refine j_imul (t := 10) C d_M_truthOf_9 rfl ?_
    refine j_iload_n (i := 2) (t := 11) C d_M_truthOf_10 rfl rfl rfl ?_
    refine j_iadd (t := 12) C d_M_truthOf_11 rfl ?_
    rw [nI_mul, nI_add]
    refine j_istore_n (i := 3) (t := 13) (lv' := [(0, _), (1, _), (2, _), (3, _)]) C d_M_truthOf_12 rfl (by decide) (by decide) rfl rfl ?_
    refine j_aload_n (i := 0) (t := 14) C d_M_truthOf_13 rfl rfl (by first | exact jrv_r | exact jrv_n | exact jrv_f) rfl ?_
    refine j_get (t := 17) C fl_M_27 d_M_truthOf_14 hM.1 rfl rfl ?_
    refine j_aload_n (i := 0) (t := 18) C d_M_truthOf_17 rfl rfl (by first | exact jrv_r | exact jrv_n | exact jrv_f) rfl ?_
    refine j_get (t := 21) C fl_M_61 d_M_truthOf_18 hM.1 rfl rfl ?_
    refine j_iload_n (i := 1) (t := 22) C d_M_truthOf_21 rfl rfl rfl ?_
    refine j_ld_fi (i := k) (t := 23) C d_M_truthOf_22 hM (by first | rfl | simp only [nI_add, nI_mul, nI_1]) (by omega) ((r_st k hk).2.1 hk5) rfl ?_
    refine j_ld_ty (i := g_sc s k) (t := 24) C d_M_truthOf_23 hM (by first | rfl | simp only [nI_add, nI_mul, nI_1]) (by omega) (hty) rfl ?_
    refine j_istore (i := 4) (t := 26) (lv' := [(0, _), (1, _), (2, _), (3, _), (4, _)]) C d_M_truthOf_24 (by decide) (by decide) rfl rfl ?_
    refine j_aload_n (i := 0) (t := 27) C d_M_truthOf_26 rfl rfl (by first | exact jrv_r | exact jrv_n | exact jrv_f) rfl ?_
    refine j_get (t := 30) C fl_M_58 d_M_truthOf_27 hM.1 rfl rfl ?_
    refine j_iload_n (i := 1) (t := 31) C d_M_truthOf_30 rfl rfl rfl ?_
    refine j_ld_kd (i := k) (t := 32) C d_M_truthOf_31 hM (by first | rfl | simp only [nI_add, nI_mul, nI_1]) (by omega) ((r_st k hk).1.trans hK) rfl ?_
    refine j_iconst (x := 2) (t := 33) C d_M_truthOf_32 rfl rfl ?_
    refine j_icmp_ge (tgt := 66) (t := 36) C d_M_truthOf_33 (by decide) rfl (fun h33 => ?_) (fun h33 => absurd h33 (by decide))
    refine j_aload_n (i := 0) (t := 67) C d_M_truthOf_66 rfl rfl (by first | exact jrv_r | exact jrv_n | exact jrv_f) rfl ?_
    refine j_get (t := 70) C fl_M_58 d_M_truthOf_67 hM.1 rfl rfl ?_
    refine j_iload_n (i := 1) (t := 71) C d_M_truthOf_70 rfl rfl rfl ?_
    refine j_ld_kd (i := k) (t := 72) C d_M_truthOf_71 hM (by first | rfl | simp only [nI_add, nI_mul, nI_1]) (by omega) ((r_st k hk).1.trans hK) rfl ?_
    refine j_iconst (x := 4) (t := 73) C d_M_truthOf_72 rfl rfl ?_
    refine j_icmp_ne (tgt := 91) (t := 76) C d_M_truthOf_73 (by decide) rfl (fun h73 => absurd h73 (by decide)) (fun h73 => ?_)
    refine j_sipush (x := nI 1000) (t := 79) C d_M_truthOf_76 rfl rfl ?_
    refine j_aload_n (i := 0) (t := 80) C d_M_truthOf_79 rfl rfl (by first | exact jrv_r | exact jrv_n | exact jrv_f) rfl ?_
    refine j_get (t := 83) C fl_M_67 d_M_truthOf_80 hM.1 rfl rfl ?_
    refine j_iload_n (i := 1) (t := 84) C d_M_truthOf_83 rfl rfl rfl ?_
    refine j_ld_ot (i := k) (t := 85) C d_M_truthOf_84 hM (by first | rfl | simp only [nI_add, nI_mul, nI_1]) (by omega) ((r_st k hk).2.2.2.1.trans eP) rfl ?_
    refine j_imul (t := 86) C d_M_truthOf_85 rfl ?_
    refine j_iload_n (i := 2) (t := 87) C d_M_truthOf_86 rfl rfl rfl ?_
    refine j_iadd (t := 88) C d_M_truthOf_87 rfl ?_
    refine j_goto (tgt := 101) C d_M_truthOf_88 (by decide) ?_
    rw [nI_mul, nI_add]
    refine j_istore (i := 5) (t := 103) (lv' := [(0, _), (1, _), (2, _), (3, _), (4, _), (5, _)]) C d_M_truthOf_101 (by decide) (by decide) rfl rfl ?_
    refine j_aload_n (i := 0) (t := 104) C d_M_truthOf_103 rfl rfl (by first | exact jrv_r | exact jrv_n | exact jrv_f) rfl ?_
    refine j_get (t := 107) C fl_M_52 d_M_truthOf_104 hM.1 rfl rfl ?_
    refine j_iload_n (i := 3) (t := 108) C d_M_truthOf_107 rfl rfl rfl ?_
    refine j_ld_has (i := 1000 * g_sc s k + e) (t := 109) C d_M_truthOf_108 hM (by first | rfl | simp only [nI_add, nI_mul, nI_1]) (by omega) (hrow) rfl ?_
    refine j_if_eq (tgt := 132) (t := 112) C d_M_truthOf_109 (by decide) rfl (fun h109 => ?_) (fun h109 => ?_)
    · refine j_iconst (x := 4) (t := 133) C d_M_truthOf_132 rfl rfl ?_
      exact j_iret C d_M_truthOf_133 (by first | rfl | exact nar_b) (⟨rfl, by unfold rAt; rw [hK]; first | (rw [hs_none h109]; rfl) | (obtain ⟨x, hx⟩ := hs_some h109; rw [hoP, hx, hs_none h129]; rfl)⟩) (by omega) (by omega)
    · refine j_aload_n (i := 0) (t := 113) C d_M_truthOf_112 rfl rfl (by first | exact jrv_r | exact jrv_n | exact jrv_f) rfl ?_
      refine j_get (t := 116) C fl_M_58 d_M_truthOf_113 hM.1 rfl rfl ?_
      refine j_iload_n (i := 1) (t := 117) C d_M_truthOf_116 rfl rfl rfl ?_
      refine j_ld_kd (i := k) (t := 118) C d_M_truthOf_117 hM (by first | rfl | simp only [nI_add, nI_mul, nI_1]) (by omega) ((r_st k hk).1.trans hK) rfl ?_
      refine j_iconst (x := 4) (t := 119) C d_M_truthOf_118 rfl rfl ?_
      refine j_icmp_ne (tgt := 134) (t := 122) C d_M_truthOf_119 (by decide) rfl (fun h119 => absurd h119 (by decide)) (fun h119 => ?_)
      refine j_aload_n (i := 0) (t := 123) C d_M_truthOf_122 rfl rfl (by first | exact jrv_r | exact jrv_n | exact jrv_f) rfl ?_
      refine j_get (t := 126) C fl_M_52 d_M_truthOf_123 hM.1 rfl rfl ?_
      refine j_iload (t := 128) C d_M_truthOf_126 rfl rfl ?_
      refine j_ld_has (i := 1000 * P + e) (t := 129) C d_M_truthOf_128 hM (by first | rfl | simp only [nI_add, nI_mul, nI_1]) (by omega) (hrow2) rfl ?_
      refine j_if_ne (tgt := 134) (t := 132) C d_M_truthOf_129 (by decide) rfl (fun h129 => ?_) (fun h129 => ?_)
      · refine j_aload_n (i := 0) (t := 135) C d_M_truthOf_134 rfl rfl (by first | exact jrv_r | exact jrv_n | exact jrv_f) rfl ?_
        refine j_get (t := 138) C fl_M_58 d_M_truthOf_135 hM.1 rfl rfl ?_
        refine j_iload_n (i := 1) (t := 139) C d_M_truthOf_138 rfl rfl rfl ?_
        refine j_ld_kd (i := k) (t := 140) C d_M_truthOf_139 hM (by first | rfl | simp only [nI_add, nI_mul, nI_1]) (by omega) ((r_st k hk).1.trans hK) rfl ?_
        refine j_iconst (x := 2) (t := 141) C d_M_truthOf_140 rfl rfl ?_
        refine j_icmp_le (tgt := 171) (t := 144) C d_M_truthOf_141 (by decide) rfl (fun h141 => absurd h141 (by decide)) (fun h141 => ?_)
        obtain ⟨x, hx⟩ := hs_some h109
        obtain ⟨y, hy⟩ := hs_some h129
        have hyk := row_ok hR hW hPl he4 hy
        rw [hlt] at hyk
        refine j_aload_n (i := 0) (t := 145) C d_M_truthOf_144 rfl rfl (by first | exact jrv_r | exact jrv_n | exact jrv_f) rfl ?_
        refine j_get (t := 148) C fl_M_64 d_M_truthOf_145 hM.1 rfl rfl ?_
        refine j_iload_n (i := 1) (t := 149) C d_M_truthOf_148 rfl rfl rfl ?_
        refine j_ld_op (i := k) (t := 150) C d_M_truthOf_149 hM (by first | rfl | simp only [nI_add, nI_mul, nI_1]) (by omega) ((r_st k hk).2.2.1) rfl ?_
        refine j_aload_n (i := 0) (t := 151) C d_M_truthOf_150 rfl rfl (by first | exact jrv_r | exact jrv_n | exact jrv_f) rfl ?_
        refine j_iload (t := 153) C d_M_truthOf_151 rfl rfl ?_
        refine j_iload_n (i := 3) (t := 154) C d_M_truthOf_153 rfl rfl rfl ?_
        refine j_iload (t := 156) C d_M_truthOf_154 rfl rfl ?_
        refine j_callV (As := [_, _, _]) (t := 159) C (c_M_cmp _ o q m (g_ty s (g_sc s k)) (1000 * g_sc s k + e) (1000 * P + e) (x) (y)) d_M_truthOf_156 jb_M_compare ml_M_116 jv_M_compare hM.1 rfl rfl rfl (Nat.le_of_ble_eq_true rfl) (by decide) (by omega) (by omega) (⟨rfl, hM, row_ok hR hW hsc he hx, hyk⟩) rfl (fun r156 w156 p156 => ?_)
        obtain ⟨rfl, z156, rfl, s156⟩ := p156
        dsimp only [jst]
        refine j_callS (As := [_, _]) (t := 162) C (c_M_holds _ (g_so s k) z156) d_M_truthOf_159 jb_M_holds ml_M_120 st_M_holds rfl (Nat.le_of_ble_eq_true rfl) (by decide) (by omega) (by omega) (rfl) rfl (fun r159 w159 p159 => ?_)
        obtain ⟨rfl, rfl⟩ := p159
        dsimp only [jst]
        rw [hO_sg s156.1]
        refine j_if_eq (tgt := 169) (t := 165) C d_M_truthOf_162 (by decide) rfl (fun h162 => ?_) (fun h162 => ?_)
        · refine j_iconst (x := 1) (t := 170) C d_M_truthOf_169 rfl rfl ?_
          exact j_iret C d_M_truthOf_170 (by first | rfl | exact nar_b) (⟨rfl, by unfold rAt; rw [hK, hx, hoP, hy]; first | (rw [bI_0] at h162; show _ = some (Value.int (bif hV (g_so s k) (vc x y) then 2 else 1)); rw [h162]; rfl) | (rw [bI_0, Bool.not_eq_false] at h162; show _ = some (Value.int (bif hV (g_so s k) (vc x y) then 2 else 1)); rw [h162]; rfl)⟩) (by omega) (by omega)
        · refine j_iconst (x := 2) (t := 166) C d_M_truthOf_165 rfl rfl ?_
          refine j_goto (tgt := 170) C d_M_truthOf_166 (by decide) ?_
          exact j_iret C d_M_truthOf_170 (by first | rfl | exact nar_b) (⟨rfl, by unfold rAt; rw [hK, hx, hoP, hy]; first | (rw [bI_0] at h162; show _ = some (Value.int (bif hV (g_so s k) (vc x y) then 2 else 1)); rw [h162]; rfl) | (rw [bI_0, Bool.not_eq_false] at h162; show _ = some (Value.int (bif hV (g_so s k) (vc x y) then 2 else 1)); rw [h162]; rfl)⟩) (by omega) (by omega)
      · refine j_iconst (x := 4) (t := 133) C d_M_truthOf_132 rfl rfl ?_
        exact j_iret C d_M_truthOf_133 (by first | rfl | exact nar_b) (⟨rfl, by unfold rAt; rw [hK]; first | (rw [hs_none h109]; rfl) | (obtain ⟨x, hx⟩ := hs_some h109; rw [hoP, hx, hs_none h129]; rfl)⟩) (by omega) (by omega)
