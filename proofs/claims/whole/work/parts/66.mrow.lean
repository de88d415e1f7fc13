/-! One more row in the reference; what keeps a state well. -/
theorem va_up_id {α : Type} {f : Nat → α} {c : Nat} {x : α} (h : x = f c) : va_up f c x = f := by
  funext j
  by_cases q : j = c
  · subst q; rw [va_up_self]; exact h
  · rw [va_up_ne _ _ q]
theorem va_up_2 {α : Type} {f : Nat → α} {c : Nat} {x y : α} : va_up (va_up f c x) c y = va_up f c y := by
  funext j
  by_cases q : j = c
  · subst q; rw [va_up_self, va_up_self]
  · rw [va_up_ne _ _ q, va_up_ne _ _ q, va_up_ne _ _ q]
theorem addRows_0 {s : jS} {c : Nat} {v : Option jv} : addRows s c 0 v = s := by
  have e1 : va_up (g_rc s) c (g_rc s c + 0) = g_rc s := va_up_id rfl
  have e2 : va_up (g_rf s) c (fun j => if g_rc s c ≤ j ∧ j < g_rc s c + 0 then v else g_rf s c j) = g_rf s := va_up_id (by
    funext j
    rw [if_neg (by omega)])
  unfold addRows
  rw [e1, e2]
theorem addRows_s {s : jS} {c k : Nat} {v : Option jv} : addRows (addRows s c k v) c 1 v = addRows s c (k + 1) v := by
  obtain ⟨A, hA⟩ : ∃ A, A = va_up (g_rc s) c (g_rc s c + k) := ⟨_, rfl⟩
  obtain ⟨B, hB⟩ : ∃ B, B = va_up (g_rf s) c (fun j => if g_rc s c ≤ j ∧ j < g_rc s c + k then v else g_rf s c j) := ⟨_, rfl⟩
  have a1 : A c = g_rc s c + k := by rw [hA]; exact va_up_self _ _ _
  have b1 : B c = fun j => if g_rc s c ≤ j ∧ j < g_rc s c + k then v else g_rf s c j := by rw [hB]; exact va_up_self _ _ _
  have e1 : va_up A c (A c + 1) = va_up (g_rc s) c (g_rc s c + (k + 1)) := by
    rw [a1, hA, va_up_2, Nat.add_assoc]
  have e2 : va_up B c (fun j => if A c ≤ j ∧ j < A c + 1 then v else B c j) = va_up (g_rf s) c (fun j => if g_rc s c ≤ j ∧ j < g_rc s c + (k + 1) then v else g_rf s c j) := by
    rw [a1, b1]
    have e3 : (fun j => if g_rc s c + k ≤ j ∧ j < g_rc s c + k + 1 then v else if g_rc s c ≤ j ∧ j < g_rc s c + k then v else g_rf s c j) = (fun j => if g_rc s c ≤ j ∧ j < g_rc s c + (k + 1) then v else g_rf s c j) := by
      funext j
      by_cases q : g_rc s c + k ≤ j ∧ j < g_rc s c + k + 1
      · rw [if_pos q, if_pos (by omega)]
      · rw [if_neg q]
        by_cases q2 : g_rc s c ≤ j ∧ j < g_rc s c + k
        · rw [if_pos q2, if_pos (by omega)]
        · rw [if_neg q2, if_neg (by omega)]
    rw [e3, hB, va_up_2]
  have l : addRows s c k v = s_rf (s_rc s A) B := by rw [hA, hB]; rfl
  rw [l]
  show s_rf (s_rc (s_rf (s_rc s A) B) (va_up A c (A c + 1))) (va_up B c (fun j => if A c ≤ j ∧ j < A c + 1 then v else B c j)) = _
  rw [e1, e2]
  rfl
theorem ar_rc {s : jS} {c k : Nat} {v : Option jv} : g_rc (addRows s c k v) c = g_rc s c + k := va_up_self _ _ _
theorem ar_rf {s : jS} {c k : Nat} {v : Option jv} : g_rf (addRows s c k v) c = fun j => if g_rc s c ≤ j ∧ j < g_rc s c + k then v else g_rf s c j := va_up_self _ _ _
theorem ar_ts {s : jS} {c k : Nat} {v : Option jv} : tsum (g_rf (addRows s c k v) c) (g_rc (addRows s c k v) c) = tsum (g_rf s c) (g_rc s c) + k * vlen v := by
  rw [ar_rc, ar_rf]; exact tsum_fill
theorem ar_same {s : jS} {c k : Nat} {v : Option jv} : sameRest s (addRows s c k v) := ⟨rfl, rfl, rfl, rfl, rfl, rfl, rfl, rfl, rfl, rfl, rfl, rfl, rfl⟩
theorem ar_col {s : jS} {c k : Nat} {v : Option jv} : ∀ c', c' ≠ c → colEq s (addRows s c k v) c' := fun c' hn => ⟨rfl, (va_up_ne _ _ hn).symm, (va_up_ne _ _ hn).symm, rfl, rfl, rfl, rfl, rfl, rfl⟩
theorem ar_ty {s : jS} {c k : Nat} {v : Option jv} : g_ty (addRows s c k v) = g_ty s := rfl
theorem colOK_eq {s t : jS} {c : Nat} (e : colEq s t c) (h : colOK s c) : colOK t c := by
  obtain ⟨e1, e2, e3, e4, e5, e6, e7, e8, e9⟩ := e
  unfold colOK at h ⊢
  rw [e1, e2, e3, e4, e5, e6, e7, e8, e9] at h
  exact h
theorem WF_col {s t : jS} (hW : WF s) (es : sameRest s t) (ety : g_ty s = g_ty t) (hcol : ∀ c, c < g_cc s → colOK t c) : WF t := by
  obtain ⟨wtn, wtp, wcc, wln, wsn, wzn, wcol, wlit, wst, wzt⟩ := hW
  obtain ⟨e1, e2, e3, e4, e5, e6, e7, e8, e9, e10, e11, e12, e13⟩ := es
  refine ⟨by rw [← e1]; exact wtn, by rw [← e1, ← e2]; exact wtp, by rw [← e3]; exact wcc, by rw [← e4]; exact wln, by rw [← e6]; exact wsn, by rw [← e12]; exact wzn, by rw [← e3]; exact hcol, by rw [← e4, ← e5]; exact wlit, fun j hj => ?_, by rw [← e12, ← e13]; exact wzt⟩
  rw [← e6] at hj
  have h := wst j hj
  unfold stepOK at h ⊢
  rw [← e3, ← e4, ← e5, ← e7, ← e8, ← e9, ← e10, ← e11, ← ety]
  exact h
theorem WF_col1 {s t : jS} {c : Nat} (hW : WF s) (es : sameRest s t) (ety : g_ty s = g_ty t) (ec : ∀ c', c' ≠ c → colEq s t c') (hcol : c < g_cc s → colOK t c) : WF t := WF_col hW es ety (fun c' hc' => by
  by_cases q : c' = c
  · subst q; exact hcol hc'
  · exact colOK_eq (ec c' q) (hW.2.2.2.2.2.2.1 c' hc'))
theorem WF_rows {s : jS} {c k : Nat} {v : Option jv} (hW : WF s) (hk : g_rc s c + k ≤ 1000) (hv : ∀ x, v = some x → vok (g_ty s c) x) (ht : tsum (g_rf s c) (g_rc s c) + k * vlen v ≤ 8000) : WF (addRows s c k v) := by
  refine WF_col1 (c := c) hW ar_same rfl ar_col (fun hc => ?_)
  obtain ⟨c1, c2, c3, c4, c5⟩ := hW.2.2.2.2.2.2.1 c hc
  refine ⟨c1, by rw [ar_rc]; exact hk, by rw [ar_ts]; exact ht, ?_, c5⟩
  rw [ar_rc, ar_rf, ar_ty]
  intro j hj x hx
  replace hx : (if g_rc s c ≤ j ∧ j < g_rc s c + k then v else g_rf s c j) = some x := hx
  by_cases q : g_rc s c ≤ j ∧ j < g_rc s c + k
  · rw [if_pos q] at hx
    exact hv x hx
  · rw [if_neg q] at hx
    exact c4 j (by omega) x hx
theorem knM_eq {s t : jS} {m : jM} {c : Nat} (e1 : g_ty s c = g_ty t c) (e2 : g_kr s c = g_kr t c) (e3 : g_km s c = g_km t c) (e4 : g_mo s c = g_mo t c) (e5 : g_ec s c = g_ec t c) (e6 : g_ef s c = g_ef t c) (h : knM s m c) : knM t m c := by
  unfold knM at h ⊢
  rw [e1, e2, e3, e4, e5, e6] at h
  exact h
theorem relM_row {s : jS} {m m' : jM} {c e : Nat} {v : Option jv} (hR : relM s m) (hW : WF s) (hc : c < g_cc s) (hr : g_rc s c < 1000) (h13 : rest13 m m') (hv : vk m m' (1000 * c + g_rc s c) (8000 * c + tsum (g_rf s c) (g_rc s c)) e) (he : e ≤ 8000 * c + 8000)
    (hty : mg_ty m' = mg_ty m) (hcn : mg_cnt m' = upd (mg_cnt m) c (nI (g_rc s c + 1))) (hus : mg_us m' c = nI (tsum (g_rf s c) (g_rc s c) + vlen v) ∧ ∀ c', c' ≠ c → mg_us m' c' = mg_us m c') (hk : mg_rw m' = mg_rw m ∧ mg_ms m' = mg_ms m ∧ mg_wd m' = mg_wd m ∧ mg_kn m' = mg_kn m ∧ mg_hm m' = mg_hm m) (hh : mg_has m' = upd (mg_has m) (1000 * c + g_rc s c) (bI v.isSome)) (hsz : ¬ g_ty s c = 2 → mg_size m' = mg_size m)
    (hx : ∀ x, v = some x → valM m' (g_ty s c) (1000 * c + g_rc s c) x (8000 * c + tsum (g_rf s c) (g_rc s c))) : relM (addRows s c 1 v) m' := by
  obtain ⟨k1, k2, k3, k4, k5⟩ := hk
  have h16 : c < 16 := by have := hW.2.2.1; omega
  have hok := hW.2.2.2.2.2.2.1 c hc
  obtain ⟨h1, h2, h3, h4, h5, h6⟩ := hR.2.2.1 c hc
  have hts := hok.2.2.1
  refine relM_col (t := addRows s c 1 v) (i0 := 1000 * c + g_rc s c) (a := 8000 * c + tsum (g_rf s c) (g_rc s c)) (e := e) hR hW hc ar_same ar_col rfl h13 hv ⟨Or.inl ⟨by omega, by omega⟩, Or.inr (Or.inl ⟨by omega, he⟩)⟩ (fun c' hn => ⟨by rw [hty], by rw [hcn]; exact upd_ne hn, hus.2 c' hn, by rw [k1], by rw [k2], by rw [k3], by rw [k4], by rw [k5]⟩) (fun j hj => by rw [hh]; exact upd_ne (by omega)) (fun z r hr' => by rw [hsz z]; exact hR.2.2.2.2.1 c h16 (fun y => z y.2) r hr') ?_
  refine ⟨by rw [hty]; exact h1, by rw [hcn, ar_rc]; exact upd_self, by rw [ar_ts, Nat.one_mul]; exact hus.1, ?_, by rw [k4]; exact h5, fun hkn => knM_eq (s := s) rfl rfl rfl rfl rfl rfl (kn_vk (s := s) hv hok hkn (by rw [k1]) (by rw [k2]) (by rw [k5]) (by rw [k3]) ⟨by omega, by omega, fun j hj => by omega⟩ (by omega) (by omega) (h6 hkn))⟩
  rw [ar_rc]
  intro r hr2
  unfold rowM
  rw [ar_rf, ar_ty]
  show mg_has m' (1000 * c + r) = bI (if g_rc s c ≤ r ∧ r < g_rc s c + 1 then v else g_rf s c r).isSome ∧ ∀ x, (if g_rc s c ≤ r ∧ r < g_rc s c + 1 then v else g_rf s c r) = some x → valM m' (g_ty s c) (1000 * c + r) x (8000 * c + tsum (fun j => if g_rc s c ≤ j ∧ j < g_rc s c + 1 then v else g_rf s c j) r)
  by_cases q : r = g_rc s c
  · have e1 : (if g_rc s c ≤ r ∧ r < g_rc s c + 1 then v else g_rf s c r) = v := if_pos (by omega)
    have e2 : tsum (fun j => if g_rc s c ≤ j ∧ j < g_rc s c + 1 then v else g_rf s c j) r = tsum (g_rf s c) r := tsum_on (fun j hj => if_neg (by omega))
    rw [e1, e2, hh, q]
    exact ⟨upd_self, hx⟩
  · have e1 : (if g_rc s c ≤ r ∧ r < g_rc s c + 1 then v else g_rf s c r) = g_rf s c r := if_neg (by omega)
    have e2 : tsum (fun j => if g_rc s c ≤ j ∧ j < g_rc s c + 1 then v else g_rf s c j) r = tsum (g_rf s c) r := tsum_on (fun j hj => if_neg (by omega))
    rw [e1, e2, hh, upd_ne (by omega)]
    obtain ⟨g1, g2⟩ := h4 r (by omega)
    refine ⟨g1, fun x hx2 => ?_⟩
    have h7 := tsum_at hx2 (n := g_rc s c) (by omega)
    exact valM_vk hv (by omega) (by omega) (g2 x hx2)
/-- a row that is missing; a row of a number -/
theorem relM_miss1 {s : jS} {m : jM} {c : Nat} (hR : relM s m) (hW : WF s) (hc : c < g_cc s) (hr : g_rc s c < 1000) : relM (addRows s c 1 none) (mp_cnt (mp_has m (upd (mg_has m) (1000 * c + g_rc s c) 0)) (upd (mg_cnt m) c (nI (g_rc s c + 1)))) :=
  relM_row (e := 0) hR hW hc hr ⟨rfl, rfl, rfl, rfl, rfl, rfl, rfl, rfl, rfl, rfl, rfl, rfl, rfl⟩ (vk.rf rfl rfl rfl rfl) (Nat.zero_le _) rfl rfl ⟨(hR.2.2.1 c hc).2.2.1, fun _ _ => rfl⟩ ⟨rfl, rfl, rfl, rfl, rfl⟩ rfl (fun _ => rfl) (fun x z => by cases z)
theorem relM_num1 {s : jS} {m : jM} {c : Nat} {v : Int64} (hR : relM s m) (hW : WF s) (hc : c < g_cc s) (hr : g_rc s c < 1000) (hn : ¬ g_ty s c = 2) : relM (addRows s c 1 (some (g_ty s c, v, []))) (mp_cnt (mp_has (mp_num m (vp_updL (mg_num m) (1000 * c + g_rc s c) v)) (upd (mg_has m) (1000 * c + g_rc s c) 1)) (upd (mg_cnt m) c (nI (g_rc s c + 1)))) :=
  relM_row (e := 0) hR hW hc hr ⟨rfl, rfl, rfl, rfl, rfl, rfl, rfl, rfl, rfl, rfl, rfl, rfl, rfl⟩ ⟨fun i hi => ⟨updL_ne hi, rfl, rfl⟩, fun _ _ => rfl⟩ (Nat.zero_le _) rfl rfl ⟨(hR.2.2.1 c hc).2.2.1, fun _ _ => rfl⟩ ⟨rfl, rfl, rfl, rfl, rfl⟩ rfl (fun _ => rfl) (fun x z => by
    cases z
    exact ⟨fun _ => updL_self, fun z => absurd z hn⟩)
theorem rm_1 {s : jS} {c : Nat} {n : Int32} (h : rmOK s c n = true) : 1 ≤ n := by
  simp only [rmOK, Bool.and_eq_true, decide_eq_true_eq] at h; exact h.1
theorem rm_2 {s : jS} {c : Nat} {n : Int32} (h : rmOK s c n = true) : n ≤ 1000 - nI (g_rc s c) := by
  simp only [rmOK, Bool.and_eq_true, decide_eq_true_eq] at h; exact h.2
theorem miss_n {s : jS} {x a : Int32} (h : cix s x = none) : sp_miss s x a = (0, s) := by simp only [sp_miss, h]
theorem miss_f {s : jS} {x a : Int32} {c : Nat} (h : cix s x = some c) (hn : ¬ rmOK s c a = true) : sp_miss s x a = (0, s) := by simp only [sp_miss, h]; rw [if_neg hn]
theorem miss_t {s : jS} {x a : Int32} {c : Nat} (h : cix s x = some c) (hn : rmOK s c a = true) : sp_miss s x a = (1, addRows s c a.toNatClampNeg none) := by simp only [sp_miss, h]; rw [if_pos hn]
theorem add_n {s : jS} {x a : Int32} {v : Int64} (h : cix s x = none) : sp_add s x v a = (0, s) := by simp only [sp_add, h]
theorem add_f {s : jS} {x a : Int32} {v : Int64} {c : Nat} (h : cix s x = some c) (hn : ¬ (nO (g_ty s c) v = true ∧ rmOK s c a = true)) : sp_add s x v a = (0, s) := by simp only [sp_add, h]; rw [if_neg hn]
theorem add_t {s : jS} {x a : Int32} {v : Int64} {c : Nat} (h : cix s x = some c) (hn : nO (g_ty s c) v = true ∧ rmOK s c a = true) : sp_add s x v a = (1, addRows s c a.toNatClampNeg (some (g_ty s c, v, []))) := by simp only [sp_add, h]; rw [if_pos hn]
