/-! Every call leaves a state well. -/
theorem byt_lt {x : Int32} {j : Nat} : byt x j < 256 := by unfold byt; exact Nat.mod_lt _ (by omega)
theorem fb_lt {a b c d e : Int32} {k : Nat} : fb a b c d e k < 256 := by
  unfold fb
  split
  · exact byt_lt
  · split
    · exact byt_lt
    · split
      · exact byt_lt
      · split
        · exact byt_lt
        · exact byt_lt
theorem wf_feed {s : jS} {a b c d e : Int32} (hW : WF s) : WF (sp_feed s a b c d e).2 := by
  unfold sp_feed
  split
  · rename_i h
    obtain ⟨wtn, wtp, wcc, wln, wsn, wzn, wcol, wlit, wst, wzt⟩ := hW
    refine ⟨?_, fun j hj => ?_, wcc, wln, wsn, wzn, wcol, wlit, wst, wzt⟩
    · show g_tn s + 20 ≤ 1000
      omega
    · show (if j < g_tn s then g_tp s j else fb a b c d e (j - g_tn s)) < 256
      split
      · rename_i q; exact wtp j q
      · exact fb_lt
  · exact hW
theorem ty_012 {ty : Int32} (h1 : ¬ ty < 0) (h2 : ty ≤ 2) : ty = 0 ∨ ty = 1 ∨ ty = 2 := by
  obtain ⟨j, hj, rfl⟩ := nI_of h1
  have h3 : j ≤ 2 := (nI_leI (b := 2) hj (by omega)).mp h2
  rcases (show j = 0 ∨ j = 1 ∨ j = 2 by omega) with rfl | rfl | rfl
  · exact Or.inl rfl
  · exact Or.inr (Or.inl rfl)
  · exact Or.inr (Or.inr rfl)
theorem wf_column {s : jS} {ty : Int32} (hW : WF s) : WF (sp_column s ty).2 := by
  unfold sp_column
  split
  · rename_i h
    obtain ⟨h1, h2, h3⟩ := h
    obtain ⟨wtn, wtp, wcc, wln, wsn, wzn, wcol, wlit, wst, wzt⟩ := hW
    obtain ⟨t, ht⟩ : ∃ t, t = newcol s ty := ⟨_, rfl⟩
    have f1 : g_tn t = g_tn s ∧ g_tp t = g_tp s ∧ g_cc t = g_cc s + 1 ∧ g_ln t = g_ln s ∧ g_lit t = g_lit s ∧ g_sn t = g_sn s ∧ g_sk t = g_sk s ∧ g_sc t = g_sc s ∧ g_so t = g_so s ∧ g_sp t = g_sp s ∧ g_sm t = g_sm s ∧ g_zn t = g_zn s ∧ g_zt t = g_zt s := by rw [ht]; exact ⟨rfl, rfl, rfl, rfl, rfl, rfl, rfl, rfl, rfl, rfl, rfl, rfl, rfl⟩
    have f2 : ∀ c, c ≠ g_cc s → colEq s t c := fun c q => by rw [ht]; exact ⟨(va_up_ne _ _ q).symm, (va_up_ne _ _ q).symm, rfl, (va_up_ne _ _ q).symm, rfl, rfl, rfl, rfl, rfl⟩
    have f3 : g_ty t (g_cc s) = ty ∧ g_rc t (g_cc s) = 0 ∧ g_kn t (g_cc s) = false := by rw [ht]; exact ⟨va_up_self _ _ _, va_up_self _ _ _, va_up_self _ _ _⟩
    have f4 : ∀ c, c < g_cc s → g_ty t c = g_ty s c := fun c q => (f2 c (by omega)).1.symm
    show WF (newcol s ty)
    rw [← ht]
    obtain ⟨e1, e2, e3, e4, e5, e6, e7, e8, e9, e10, e11, e12, e13⟩ := f1
    obtain ⟨u1, u2, u3⟩ := f3
    refine ⟨by rw [e1]; exact wtn, by rw [e1, e2]; exact wtp, by omega, by rw [e4]; exact wln, by rw [e6]; exact wsn, by rw [e12]; exact wzn, fun c hc => ?_, by rw [e4, e5]; exact wlit, fun j hj => ?_, by rw [e12, e13]; exact wzt⟩
    · by_cases q : c = g_cc s
      · subst q
        refine ⟨by rw [u1]; exact ty_012 h2 h3, by rw [u2]; omega, by rw [u2]; exact Nat.zero_le _, by rw [u2]; exact fun j hj => absurd hj (Nat.not_lt_zero _), by rw [u3]; exact fun z => by cases z⟩
      · exact colOK_eq (f2 c q) (wcol c (by omega))
    · rw [e6] at hj
      obtain ⟨a1, a2, a3, a4, a5⟩ := wst j hj
      unfold stepOK
      rw [e3, e4, e5, e7, e8, e9, e10, e11]
      refine ⟨a1, fun z => by have := a2 z; omega, fun z => ?_, fun z => ?_, fun z => ?_⟩
      · have z5 : g_sk s j < 5 := by rw [z]; decide
        rw [f4 _ (a2 z5)]
        exact a3 z
      · have z5 : g_sk s j < 5 := by rw [z]; decide
        rw [f4 _ (a2 z5)]
        exact a4 z
      · have z5 : g_sk s j < 5 := by rw [z]; decide
        rw [f4 _ (a2 z5)]
        obtain ⟨b1, P, b2, b3, b4⟩ := a5 z
        exact ⟨b1, P, b2, by omega, by rw [f4 P b3]; exact b4⟩
  · exact hW
theorem wf_clear {s : jS} {x : Int32} (hW : WF s) : WF (sp_clear s x).2 := by
  unfold sp_clear
  split
  · exact hW
  · rename_i c hc
    refine WF_col1 (s := s) (c := c) hW ⟨rfl, rfl, rfl, rfl, rfl, rfl, rfl, rfl, rfl, rfl, rfl, rfl, rfl⟩ rfl (fun c' hn => ⟨rfl, (va_up_ne _ _ hn).symm, rfl, rfl, rfl, rfl, rfl, rfl, rfl⟩) (fun h => ?_)
    obtain ⟨c1, c2, c3, c4, c5⟩ := hW.2.2.2.2.2.2.1 c h
    have e0 : g_rc (s_rc s (va_up (g_rc s) c 0)) c = 0 := va_up_self _ _ _
    exact ⟨c1, by rw [e0]; omega, by rw [e0]; exact Nat.zero_le _, by rw [e0]; exact fun j hj => absurd hj (Nat.not_lt_zero _), c5⟩
theorem wf_unknown {s : jS} {x : Int32} (hW : WF s) : WF (sp_unknown s x).2 := by
  unfold sp_unknown
  split
  · exact hW
  · rename_i c hc
    refine WF_col1 (s := s) (c := c) hW ⟨rfl, rfl, rfl, rfl, rfl, rfl, rfl, rfl, rfl, rfl, rfl, rfl, rfl⟩ rfl (fun c' hn => ⟨rfl, rfl, rfl, (va_up_ne _ _ hn).symm, rfl, rfl, rfl, rfl, rfl⟩) (fun h => ?_)
    obtain ⟨c1, c2, c3, c4, c5⟩ := hW.2.2.2.2.2.2.1 c h
    have e0 : g_kn (s_kn s (va_up (g_kn s) c false)) c = false := va_up_self _ _ _
    exact ⟨c1, c2, c3, c4, by rw [e0]; exact fun z => by cases z⟩
theorem wf_forget {s : jS} (hW : WF s) : WF (sp_forget s) := by
  obtain ⟨wtn, wtp, wcc, wln, wsn, wzn, wcol, wlit, wst, wzt⟩ := hW
  exact ⟨wtn, wtp, wcc, Nat.zero_le _, Nat.zero_le _, wzn, wcol, fun j hj => absurd hj (Nat.not_lt_zero _), fun j hj => absurd hj (Nat.not_lt_zero _), wzt⟩
theorem vok_num {ty : Int32} {v : Int64} (h : ¬ ty = 2) : vok ty (ty, v, []) := ⟨rfl, fun z => absurd z h, fun _ => rfl, Nat.zero_le _, fun j hj => absurd hj (Nat.not_lt_zero _)⟩
theorem vok_tx {s : jS} {A : Nat} (hW : WF s) (hA : A ≤ 255) (ht : A ≤ g_tn s) : vok 2 (2, 0, tptx s A) := ⟨rfl, fun _ => rfl, fun z => absurd rfl z, by show (tptx s A).length ≤ 255; rw [tptx_len]; exact hA, fun j hj => by
  have hj' : j < (tptx s A).length := hj
  rw [tptx_len] at hj'
  show (tptx s A).getD j 0 < 256
  rw [tptx_at hj']
  exact hW.2.1 j (by omega)⟩
theorem wf_miss {s : jS} {x a : Int32} (hW : WF s) : WF (sp_miss s x a).2 := by
  unfold sp_miss
  split
  · exact hW
  · rename_i c hc
    obtain ⟨hc1, -⟩ := cix_some hW.2.2.1 hc
    obtain ⟨c1, c2, c3, c4, c5⟩ := hW.2.2.2.2.2.2.1 c hc1
    split
    · rename_i h
      obtain ⟨N, rfl, h1, h2⟩ := rm_ok c2 h
      rw [nI_clamp (by omega)]
      exact WF_rows hW h2 (fun y z => by cases z) (by simp only [vlen]; omega)
    · exact hW
theorem wf_add {s : jS} {x a : Int32} {v : Int64} (hW : WF s) : WF (sp_add s x v a).2 := by
  unfold sp_add
  split
  · exact hW
  · rename_i c hc
    obtain ⟨hc1, -⟩ := cix_some hW.2.2.1 hc
    obtain ⟨c1, c2, c3, c4, c5⟩ := hW.2.2.2.2.2.2.1 c hc1
    split
    · rename_i h
      obtain ⟨N, rfl, h1, h2⟩ := rm_ok c2 h.2
      rw [nI_clamp (by omega)]
      exact WF_rows hW h2 (fun y z => by cases z; exact vok_num (nO_ne2 h.1)) (by simp only [vlen, List.length_nil]; omega)
    · exact hW
theorem wf_addText {s : jS} {x n : Int32} (hW : WF s) : WF (sp_addText s x n).2 := by
  by_cases h : onT s n = true
  · obtain ⟨A, hA, rfl⟩ := nI_of (onT_1 h)
    have hAt := (onT_iff hA hW.1).mp h
    cases hc : cix s x with
    | none => rw [addText_n h hc]; exact WF_tn0 hW
    | some c =>
      obtain ⟨hc1, -⟩ := cix_some hW.2.2.1 hc
      obtain ⟨c1, c2, c3, c4, c5⟩ := hW.2.2.2.2.2.2.1 c hc1
      by_cases hx : txOK s c (nI A) = true
      · rw [addText_t h hc hx, nI_clamp hA]
        obtain ⟨x1, x2, x3, x4⟩ := (txOK_iff c2 c3 hA).mp hx
        have hv := vok_tx hW x2 hAt
        obtain ⟨t, ht⟩ : ∃ t, t = s_tn s 0 := ⟨_, rfl⟩
        have hWt : WF t := by rw [ht]; exact WF_tn0 hW
        have f : g_rc t = g_rc s ∧ g_rf t = g_rf s ∧ g_ty t = g_ty s := by rw [ht]; exact ⟨rfl, rfl, rfl⟩
        show WF (addRows (s_tn s 0) c 1 (some (2, 0, tptx s A)))
        rw [← ht]
        refine WF_rows hWt (by rw [f.1]; omega) (fun y z => by cases z; rw [f.2.2, x1]; exact hv) ?_
        rw [f.1, f.2.1]
        simp only [vlen]
        rw [tptx_len]
        omega
      · rw [addText_f h hc hx]; exact WF_tn0 hW
  · rw [addText_0 h]; exact hW
theorem wf_lit {s : jS} {y : jv} (hW : WF s) (hl : g_ln s < 64) (hy : vok y.1 y) : WF (s_ln (s_lit s (va_up (g_lit s) (g_ln s) y)) (g_ln s + 1)) := by
  obtain ⟨wtn, wtp, wcc, wln, wsn, wzn, wcol, wlit, wst, wzt⟩ := hW
  obtain ⟨t, ht⟩ : ∃ t, t = s_ln (s_lit s (va_up (g_lit s) (g_ln s) y)) (g_ln s + 1) := ⟨_, rfl⟩
  have f1 : g_tn t = g_tn s ∧ g_tp t = g_tp s ∧ g_cc t = g_cc s ∧ g_ty t = g_ty s ∧ g_ln t = g_ln s + 1 ∧ g_lit t = va_up (g_lit s) (g_ln s) y ∧ g_sn t = g_sn s ∧ g_sk t = g_sk s ∧ g_sc t = g_sc s ∧ g_so t = g_so s ∧ g_sp t = g_sp s ∧ g_sm t = g_sm s ∧ g_zn t = g_zn s ∧ g_zt t = g_zt s := by rw [ht]; exact ⟨rfl, rfl, rfl, rfl, rfl, rfl, rfl, rfl, rfl, rfl, rfl, rfl, rfl, rfl⟩
  have f2 : ∀ c, colEq s t c := fun c => by rw [ht]; exact ⟨rfl, rfl, rfl, rfl, rfl, rfl, rfl, rfl, rfl⟩
  rw [← ht]
  obtain ⟨e1, e2, e3, e0, e4, e5, e6, e7, e8, e9, e10, e11, e12, e13⟩ := f1
  have f3 : ∀ k, k < g_ln s → g_lit t k = g_lit s k := fun k hk => by rw [e5]; exact va_up_ne _ _ (by omega)
  refine ⟨by rw [e1]; exact wtn, by rw [e1, e2]; exact wtp, by rw [e3]; exact wcc, by omega, by rw [e6]; exact wsn, by rw [e12]; exact wzn, fun c hc => ?_, fun j hj => ?_, fun j hj => ?_, by rw [e12, e13]; exact wzt⟩
  · rw [e3] at hc
    exact colOK_eq (f2 c) (wcol c hc)
  · by_cases q : j = g_ln s
    · subst q
      have e : g_lit t (g_ln s) = y := by rw [e5]; exact va_up_self _ _ _
      rw [e]; exact hy
    · rw [f3 j (by omega)]; exact wlit j (by omega)
  · rw [e6] at hj
    obtain ⟨a1, a2, a3, a4, a5⟩ := wst j hj
    unfold stepOK
    rw [e3, e4, e7, e8, e9, e10, e11, e0]
    refine ⟨a1, a2, fun z => ?_, fun z => ?_, a5⟩
    · obtain ⟨P, N, b1, b2, b3, b4, b5⟩ := a3 z
      exact ⟨P, N, b1, b2, by omega, b4, fun i i1 i2 => by rw [f3 i (by omega)]; exact b5 i i1 i2⟩
    · obtain ⟨b1, P, b2, b3, b4⟩ := a4 z
      exact ⟨b1, P, b2, by omega, by rw [f3 P b3]; exact b4⟩
theorem wf_literal {s : jS} {ty : Int32} {v : Int64} (hW : WF s) : WF (sp_literal s ty v).2 := by
  unfold sp_literal
  split
  · rename_i h
    exact wf_lit hW h.1 (vok_num (nO_ne2 h.2))
  · exact hW
theorem wf_litText {s : jS} {n : Int32} (hW : WF s) : WF (sp_litText s n).2 := by
  by_cases h : onT s n = true
  · obtain ⟨A, hA, rfl⟩ := nI_of (onT_1 h)
    have hAt := (onT_iff hA hW.1).mp h
    by_cases hx : g_ln s < 64 ∧ nI A ≤ 255
    · rw [litText_t h hx, nI_clamp hA]
      have h255 : A ≤ 255 := (nI_leI (b := 255) hA (by omega)).mp hx.2
      have hv := vok_tx hW h255 hAt
      obtain ⟨t, ht⟩ : ∃ t, t = s_tn s 0 := ⟨_, rfl⟩
      have hWt : WF t := by rw [ht]; exact WF_tn0 hW
      have f : g_ln t = g_ln s ∧ g_lit t = g_lit s := by rw [ht]; exact ⟨rfl, rfl⟩
      have hz := wf_lit (y := (2, 0, tptx s A)) hWt (by rw [f.1]; exact hx.1) hv
      rw [f.1, f.2, ht] at hz
      exact hz
    · rw [litText_f h hx]; exact WF_tn0 hW
  · rw [litText_0 h]; exact hW
theorem tyAll_at {ty : Int32} {lit : Nat → jv} {p n : Nat} (h : tyAll ty lit p n = true) : ∀ i, p ≤ i → i < p + n → (lit i).1 = ty := by
  intro i h1 h2
  refine Decidable.not_not.mp (fun z => ?_)
  have := tyAll_f (ty := ty) (lit := lit) (p := p) (i := i - p) (by rw [show p + (i - p) = i by omega]; exact z) (m := n) (by omega)
  rw [this] at h
  cases h
theorem aLt_ok {ty p m : Int32} {ln : Nat} {lit : Nat → jv} (hl : ln ≤ 64) (h : aLt ty p m ln lit = true) : ∃ P N, p = nI P ∧ m = nI N ∧ P + N ≤ ln ∧ 1 ≤ N ∧ ∀ i, P ≤ i → i < P + N → (lit i).1 = ty := by
  by_cases hc : 0 ≤ p.toInt ∧ 1 ≤ m.toInt ∧ p.toInt + m.toInt ≤ ln
  · obtain ⟨P, N, h1, h2, h3, h4, h5⟩ := aL_t (ty := ty) (lit := lit) hl hc
    rw [h5] at h
    exact ⟨P, N, h1, h2, h3, h4, tyAll_at h⟩
  · rw [aL_f hc] at h; cases h
theorem opK_ok {op : Int32} (h : opK op = true) : 0 ≤ op ∧ op ≤ 5 := by
  unfold opK at h
  simpa using h
theorem nI_one {N : Nat} (h : (1 : Int32) = nI N) (hN : N < 2 ^ 31) : N = 1 := ((nI_eq (a := 1) (by omega) hN).mp h).symm
theorem wf_step {s : jS} {kd x op y m : Int32} (hW : WF s) : WF (sp_step s kd x op y m).2 := by
  unfold sp_step
  split
  · rename_i h
    obtain ⟨⟨h1, h2, h3⟩, h4⟩ := h
    obtain ⟨wtn, wtp, wcc, wln, wsn, wzn, wcol, wlit, wst, wzt⟩ := hW
    obtain ⟨t, ht⟩ : ∃ t, t = addStep s kd ((cix s x).getD 0) op y m := ⟨_, rfl⟩
    have f1 : g_tn t = g_tn s ∧ g_tp t = g_tp s ∧ g_cc t = g_cc s ∧ g_ty t = g_ty s ∧ g_ln t = g_ln s ∧ g_lit t = g_lit s ∧ g_sn t = g_sn s + 1 ∧ g_sk t = va_up (g_sk s) (g_sn s) kd ∧ g_sc t = va_up (g_sc s) (g_sn s) ((cix s x).getD 0) ∧ g_so t = va_up (g_so s) (g_sn s) op ∧ g_sp t = va_up (g_sp s) (g_sn s) y ∧ g_sm t = va_up (g_sm s) (g_sn s) m ∧ g_zn t = g_zn s ∧ g_zt t = g_zt s := by rw [ht]; exact ⟨rfl, rfl, rfl, rfl, rfl, rfl, rfl, rfl, rfl, rfl, rfl, rfl, rfl, rfl⟩
    have f2 : ∀ c, colEq s t c := fun c => by rw [ht]; exact ⟨rfl, rfl, rfl, rfl, rfl, rfl, rfl, rfl, rfl⟩
    show WF (addStep s kd ((cix s x).getD 0) op y m)
    rw [← ht]
    obtain ⟨e1, e2, e3, e0, e4, e5, e6, e7, e8, e9, e10, e11, e12, e13⟩ := f1
    refine ⟨by rw [e1]; exact wtn, by rw [e1, e2]; exact wtp, by rw [e3]; exact wcc, by rw [e4]; exact wln, by omega, by rw [e12]; exact wzn, fun c hc => ?_, by rw [e4, e5]; exact wlit, fun j hj => ?_, by rw [e12, e13]; exact wzt⟩
    · rw [e3] at hc
      exact colOK_eq (f2 c) (wcol c hc)
    · unfold stepOK
      rw [e3, e4, e5, e7, e8, e9, e10, e11, e0]
      by_cases q : j = g_sn s
      · subst q
        rw [va_up_self, va_up_self, va_up_self, va_up_self, va_up_self]
        have hcx : kd < 5 → ∃ c, cix s x = some c ∧ c < g_cc s := fun z => by
          obtain ⟨c, hc⟩ := Option.isSome_iff_exists.mp (fitS_1 (h4 z))
          exact ⟨c, hc, (cix_some wcc hc).1⟩
        refine ⟨⟨Int32.not_lt.mp h2, h3⟩, fun z => ?_, fun z => ?_, fun z => ?_, fun z => ?_⟩
        · obtain ⟨c, hc, hc1⟩ := hcx z
          rw [hc]; exact hc1
        · subst z
          obtain ⟨c, hc, hc1⟩ := hcx (by decide)
          have hf := h4 (by decide)
          unfold stFit fitS at hf
          rw [hc] at hf ⊢
          simp only [cty, tak, if_pos, Bool.and_eq_true] at hf
          exact aLt_ok wln hf.2
        · subst z
          obtain ⟨c, hc, hc1⟩ := hcx (by decide)
          have hf := h4 (by decide)
          unfold stFit fitS at hf
          rw [hc] at hf ⊢
          rw [if_neg (by decide), if_pos rfl] at hf
          simp only [Bool.and_eq_true] at hf
          obtain ⟨P, N, b1, b2, b3, b4, b5⟩ := aLt_ok wln hf.2.2
          have hN := nI_one (show (1 : Int32) = nI N from b2) (by omega)
          subst hN
          exact ⟨opK_ok hf.2.1, P, b1, by omega, b5 P (Nat.le_refl _) (by omega)⟩
        · subst z
          obtain ⟨c, hc, hc1⟩ := hcx (by decide)
          have hf := h4 (by decide)
          have hf4 := fitS_4 hf
          unfold stFit fitS at hf
          rw [if_neg (by decide), if_neg (by decide), if_pos rfl] at hf
          simp only [Bool.and_eq_true] at hf
          have hb2 := hf4.1
          rw [if_pos rfl] at hb2
          obtain ⟨d, hd⟩ := Option.isSome_iff_exists.mp hb2
          obtain ⟨d1, d2⟩ := cix_some wcc hd
          have ht4 := hf4.2
          rw [hc, hd] at ht4
          rw [hc]
          exact ⟨opK_ok hf.2.1, d, d2, d1, ht4⟩
      · rw [va_up_ne _ _ q, va_up_ne _ _ q, va_up_ne _ _ q, va_up_ne _ _ q, va_up_ne _ _ q]
        exact wst j (by omega)
  · exact hW
theorem wf_scan {s : jS} {n : Int32} (hW : WF s) : WF (sp_scan s n).2 := by
  unfold sp_scan
  split
  · rename_i h
    obtain ⟨h1, h2, h3, h4⟩ := h
    obtain ⟨k, hk, rfl⟩ := nI_of h1
    have hk2 : k ≤ 1000 := (nI_leI (b := 1000) hk (by omega)).mp h2
    rw [nI_clamp hk]
    have hz : ∀ r, p124 (zS s r) := fun r => zS_124 h3 r
    generalize zS s = z' at hz ⊢
    obtain ⟨wtn, wtp, wcc, wln, wsn, wzn, wcol, wlit, wst, wzt⟩ := hW
    exact ⟨wtn, wtp, wcc, wln, wsn, hk2, wcol, wlit, wst, fun r _ => hz r⟩
  · exact hW
theorem mn_ex {f : Nat → Option jv} {x : jv} : ∀ {n : Nat}, mnR f n = some x → ∃ r, r < n ∧ f r = some x
  | 0, h => by simp [mnR] at h
  | n + 1, h => by
    cases hf : f n with
    | none =>
      rw [mnR_n hf] at h
      obtain ⟨r, r1, r2⟩ := mn_ex h
      exact ⟨r, by omega, r2⟩
    | some y =>
      cases hm : mnR f n with
      | none => rw [mnR_a hf hm] at h; cases h; exact ⟨n, by omega, hf⟩
      | some z =>
        by_cases q : vc y z < 0
        · rw [mnR_b hf hm q] at h; cases h; exact ⟨n, by omega, hf⟩
        · rw [mnR_c hf hm q] at h
          cases h
          obtain ⟨r, r1, r2⟩ := mn_ex hm
          exact ⟨r, by omega, r2⟩
theorem mx_ex {f : Nat → Option jv} {x : jv} : ∀ {n : Nat}, mxR f n = some x → ∃ r, r < n ∧ f r = some x
  | 0, h => by simp [mxR] at h
  | n + 1, h => by
    cases hf : f n with
    | none =>
      rw [mxR_n hf] at h
      obtain ⟨r, r1, r2⟩ := mx_ex h
      exact ⟨r, by omega, r2⟩
    | some y =>
      cases hm : mxR f n with
      | none => rw [mxR_a hf hm] at h; cases h; exact ⟨n, by omega, hf⟩
      | some z =>
        by_cases q : 0 < vc y z
        · rw [mxR_b hf hm q] at h; cases h; exact ⟨n, by omega, hf⟩
        · rw [mxR_c hf hm q] at h
          cases h
          obtain ⟨r, r1, r2⟩ := mx_ex hm
          exact ⟨r, by omega, r2⟩
theorem wf_known {s : jS} {x a b : Int32} (hW : WF s) : WF (sp_known s x a b).2 := by
  unfold sp_known
  split
  · exact hW
  · rename_i c hc
    split
    · rename_i h
      obtain ⟨⟨h1, h2, h3⟩, h4⟩ := h
      refine WF_col1 (s := s) (c := c) hW le_same rfl le_col (fun hc1 => ?_)
      obtain ⟨c1, c2, c3, c4, c5⟩ := hW.2.2.2.2.2.2.1 c hc1
      refine ⟨c1, c2, c3, c4, fun _ => ?_⟩
      rw [le_kr, le_km, le_mo, le_ec, le_ty]
      refine ⟨Int32.not_lt.mp h1, h2, h3, fun z => ?_, by omega, fun z => absurd z (Nat.lt_irrefl 0), fun j hj => absurd hj (Nat.not_lt_zero _), fun p hp => ?_⟩
      · cases hm : mnR (g_rf s c) (g_rc s c) with
        | none => exact absurd ⟨hm, z⟩ h4
        | some y =>
          cases hx : mxR (g_rf s c) (g_rc s c) with
          | none => exact absurd hx (mx_some hm)
          | some y2 => rw [mm_some hm hx]; rfl
      · cases hm : mnR (g_rf s c) (g_rc s c) with
        | none => rw [mm_none hm] at hp; cases hp
        | some y =>
          cases hx : mxR (g_rf s c) (g_rc s c) with
          | none => exact absurd hx (mx_some hm)
          | some y2 =>
            rw [mm_some hm hx] at hp
            cases hp
            obtain ⟨r1, r2, r3⟩ := mn_ex hm
            obtain ⟨q1, q2, q3⟩ := mx_ex hx
            exact ⟨c4 r1 r2 y r3, c4 q1 q2 y2 q3⟩
    · exact hW
theorem dct_ok {f : Nat → Option jv} {lo hi : jv} {P : jv → Prop} : ∀ {n k : Nat} {g : Nat → jv}, (∀ r, r < n → ∀ x, f r = some x → P x) → dct f lo hi n = some (k, g) → k ≤ 100 ∧ ∀ j, j < k → P (g j)
  | 0, k, g, _, h => by
    simp only [dct, Option.some.injEq, Prod.mk.injEq] at h
    obtain ⟨rfl, -⟩ := h
    exact ⟨by omega, fun j hj => absurd hj (Nat.not_lt_zero _)⟩
  | n + 1, k, g, hf, h => by
    cases hd : dct f lo hi n with
    | none => rw [dct_none hd 1] at h; cases h
    | some kg =>
      obtain ⟨k0, g0⟩ := kg
      have ih := dct_ok (fun r hr => hf r (by omega)) hd
      cases hx : f n with
      | none => rw [dct_no hd hx] at h; cases h; exact ih
      | some y =>
        by_cases ha : amg y g0 0 k0 = true
        · rw [dct_in hd hx ha] at h; cases h; exact ih
        · rw [Bool.not_eq_true] at ha
          by_cases hb : 100 ≤ k0 ∨ vc y lo < 0 ∨ 0 < vc y hi
          · rw [dct_bad hd hx ha hb] at h; cases h
          · rw [dct_add hd hx ha hb] at h
            cases h
            refine ⟨by omega, fun j hj => ?_⟩
            by_cases q : j = k0
            · subst q; rw [va_up_self]; exact hf n (by omega) y hx
            · rw [va_up_ne _ _ q]; exact ih.2 j (by omega)
theorem dcr_ex {kn : Bool} {lo hi : Option jv} {f : Nat → Option jv} {n k : Nat} {g : Nat → jv} (h : dcr kn lo hi f n = some (k, g)) : ∃ l u, kn = true ∧ lo = some l ∧ hi = some u ∧ dct f l u n = some (k, g) := by
  cases kn with
  | false => rw [dcr_f] at h; cases h
  | true =>
    cases lo with
    | none => rw [dcr_l rfl] at h; cases h
    | some l =>
      cases hi with
      | none => rw [dcr_h rfl] at h; cases h
      | some u =>
        refine ⟨l, u, rfl, rfl, rfl, ?_⟩
        cases hd : dct f l u n with
        | none => rw [dcr_n hd] at h; cases h
        | some kg =>
          obtain ⟨k0, g0⟩ := kg
          rcases Nat.eq_zero_or_pos k0 with rfl | z
          · rw [dcr_0 hd] at h; cases h
          · rw [dcr_s z hd] at h; exact h
theorem wf_dict {s : jS} {x : Int32} (hW : WF s) : WF (sp_dict s x).2 := by
  unfold sp_dict
  split
  · exact hW
  · rename_i c hc
    split
    · exact hW
    · rename_i k g hd
      obtain ⟨l, u, h1, h2, h3, h4⟩ := dcr_ex hd
      refine WF_col1 (s := s) (c := c) hW ⟨rfl, rfl, rfl, rfl, rfl, rfl, rfl, rfl, rfl, rfl, rfl, rfl, rfl⟩ rfl (fun c' hn => ⟨rfl, rfl, rfl, rfl, rfl, rfl, rfl, (va_up_ne _ _ hn).symm, (va_up_ne _ _ hn).symm⟩) (fun hc1 => ?_)
      obtain ⟨c1, c2, c3, c4, c5⟩ := hW.2.2.2.2.2.2.1 c hc1
      obtain ⟨d1, d2, d3, d4, d5, d6, d7, d8⟩ := c5 h1
      have e1 : g_ec (s_ef (s_ec s (va_up (g_ec s) c k)) (va_up (g_ef s) c g)) c = k := va_up_self _ _ _
      have e2 : g_ef (s_ef (s_ec s (va_up (g_ec s) c k)) (va_up (g_ef s) c g)) c = g := va_up_self _ _ _
      obtain ⟨w1, w2⟩ := dct_ok c4 h4
      have hm : (g_mo s c).isSome = true := by
        cases hm : g_mo s c with
        | none => rw [hm] at h2; cases h2
        | some p => rfl
      exact ⟨c1, c2, c3, c4, fun _ => ⟨d1, d2, d3, d4, by rw [e1]; exact w1, fun _ => hm, by rw [e1, e2]; exact w2, d8⟩⟩
