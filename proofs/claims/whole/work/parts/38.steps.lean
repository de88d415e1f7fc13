theorem step_can {G : jG} {w : jw} {o : Nat} {s : jS} {q : Nat → Nat → Nat} {un : Nat} {fc : Nat → Option Nat} {ft : Nat → Int32} {fl fs : Nat → Option Nat} {bs : Nat → Nat} {fw fr fu : Nat → Int32} (h : RK G w o s q un fc ft fl fs bs fw fr fu) (hW : WF s) {j : Nat} (hj : j < g_sn s) (h5 : g_sk s j < 5) : canP G w (bs j) (cAt s j) := by
  obtain ⟨hG, ho, ⟨hac, hcc⟩, ⟨hat, hfit, htp⟩, ⟨hal, hlit⟩, ⟨has, hst⟩, haw, ⟨har, hzt⟩, ⟨hau, hun, hut⟩, hcl, hinj⟩ := h
  obtain ⟨wtn, wtp, wcc, wln, wsn, wzn, wcol, wlit, wst, wzt⟩ := hW
  obtain ⟨⟨hk0, hk7⟩, hsc, hs2, hs3, hs4⟩ := wst j hj
  have hc := hsc h5
  obtain ⟨kr, km, hM, hkk⟩ := isM_of (hcl _ hc) (wcol _ hc)
  have hobj := (hst j hj).2
  unfold stF at hobj
  rw [if_pos h5] at hobj
  rcases step5 hk0 h5 with hk | hk | hk | hk | hk
  · rw [hk, if_neg (by decide), if_neg (by decide), if_neg (by decide)] at hobj
    refine ⟨_, 0, _, _, _, _, _, _, kr, km, _, _, _, _, g_lit s, oP s j, oM s j, 0, g_kn s (oP s j), g_kr s (oP s j), g_km s (oP s j), moL s (oP s j), moH s (oP s j), 0, fun _ => (0, 0, []), hobj, hM, ?_, Or.inl ⟨rfl, rfl⟩⟩
    unfold cAt
    rw [hk]
    exact tC1_kn (fun z => ⟨(hkk z).1.symm, (hkk z).2.symm⟩) (fun _ => ⟨rfl, rfl⟩)
  · rw [hk, if_neg (by decide), if_neg (by decide), if_neg (by decide)] at hobj
    refine ⟨_, 1, _, _, _, _, _, _, kr, km, _, _, _, _, g_lit s, oP s j, oM s j, 0, g_kn s (oP s j), g_kr s (oP s j), g_km s (oP s j), moL s (oP s j), moH s (oP s j), 0, fun _ => (0, 0, []), hobj, hM, ?_, Or.inr (Or.inl ⟨rfl, rfl⟩)⟩
    unfold cAt
    rw [hk]
    exact tC1_kn (fun z => ⟨(hkk z).1.symm, (hkk z).2.symm⟩) (fun _ => ⟨rfl, rfl⟩)
  · obtain ⟨P, N, e1, e2, e3, e4, e5⟩ := hs2 hk
    have hP : oP s j = P := by show (g_sp s j).toNatClampNeg = P; rw [e1]; exact nI_clamp (by omega)
    have hN : oM s j = N := by show (g_sm s j).toNatClampNeg = N; rw [e2]; exact nI_clamp (by omega)
    rw [hk, if_neg (by decide), if_pos rfl] at hobj
    refine ⟨_, 2, _, _, _, _, _, _, kr, km, _, _, _, _, g_lit s, oP s j, oM s j, 0, g_kn s (oP s j), g_kr s (oP s j), g_km s (oP s j), moL s (oP s j), moH s (oP s j), 0, fun _ => (0, 0, []), hobj, hM, ?_, Or.inr (Or.inr (Or.inl ⟨rfl, rfl, by rw [hP]; exact e1, by rw [hN]; exact e2, ?_⟩))⟩
    · unfold cAt
      rw [hk]
      exact tC1_kn (fun z => ⟨(hkk z).1.symm, (hkk z).2.symm⟩) (fun _ => ⟨rfl, rfl⟩)
    · rw [hP, hN]
      exact ⟨fl, hal, by omega, fun i h1 h2 => hlit i (by omega)⟩
  · obtain ⟨-, P, e1, e3, e5⟩ := hs3 hk
    have hP : oP s j = P := by show (g_sp s j).toNatClampNeg = P; rw [e1]; exact nI_clamp (by omega)
    rw [hk, if_neg (by decide), if_neg (by decide), if_pos rfl] at hobj
    refine ⟨_, 3, _, _, _, _, _, _, kr, km, _, _, _, _, g_lit s, oP s j, oM s j, 0, g_kn s (oP s j), g_kr s (oP s j), g_km s (oP s j), moL s (oP s j), moH s (oP s j), 0, fun _ => (0, 0, []), hobj, hM, ?_, Or.inr (Or.inr (Or.inr (Or.inl ⟨rfl, rfl, by rw [hP]; exact e1, ?_⟩)))⟩
    · unfold cAt
      rw [hk]
      exact tC1_kn (fun z => ⟨(hkk z).1.symm, (hkk z).2.symm⟩) (fun _ => ⟨rfl, rfl⟩)
    · rw [hP]
      exact ⟨fl, hal, by omega, fun i h1 h2 => hlit i (by omega)⟩
  · obtain ⟨-, P, e1, e3, e5⟩ := hs4 hk
    have hP : oP s j = P := by show (g_sp s j).toNatClampNeg = P; rw [e1]; exact nI_clamp (by omega)
    obtain ⟨kr2, km2, hM2, hkk2⟩ := isM_of (hcl _ e3) (wcol _ e3)
    rw [hk, if_pos rfl, if_neg (by decide), if_neg (by decide)] at hobj
    refine ⟨_, 4, _, _, _, _, _, _, kr, km, _, _, _, _, g_lit s, oP s j, oM s j, q 1 P, g_kn s P, kr2, km2, moL s P, moH s P, _, _, hobj, hM, ?_, Or.inr (Or.inr (Or.inr (Or.inr ⟨rfl, by rw [show (g_sp s j).toNatClampNeg = P from hP], hM2⟩)))⟩
    unfold cAt
    rw [hk, hP]
    exact tC1_kn (fun z => ⟨(hkk z).1.symm, (hkk z).2.symm⟩) (fun z => ⟨(hkk2 z).1.symm, (hkk2 z).2.symm⟩)
theorem isR_of {G : jG} {w : jw} {q : Nat → Nat → Nat} {s : jS} {c r : Nat} (h : colC G w q s c) (hr : r < g_rc s c) (hc : g_rc s c ≤ 1000) : ∃ f, isR G w (q 1 c) r f ∧ isO G w (f r) (g_rf s c r) := by
  obtain ⟨fr1, kr1, km1, lA, hA, fe, ec1, fs1, a1, a2, a3, -⟩ := h
  exact ⟨fr1, ⟨_, _, _, a1, rfl, rfl, a2, hr, hc⟩, a3 r hr⟩
/-- the columns of a step have row r -/
def rowsOK (s : jS) (r j : Nat) : Prop := (g_sk s j < 5 → r < g_rc s (g_sc s j)) ∧ (g_sk s j = 4 → r < g_rc s (oP s j))
theorem step_row {G : jG} {w : jw} {o : Nat} {s : jS} {q : Nat → Nat → Nat} {un : Nat} {fc : Nat → Option Nat} {ft : Nat → Int32} {fl fs : Nat → Option Nat} {bs : Nat → Nat} {fw fr fu : Nat → Int32} (h : RK G w o s q un fc ft fl fs bs fw fr fu) (hW : WF s) {j r : Nat} (hj : j < g_sn s) (h5 : g_sk s j < 5) (hr : rowsOK s r j) : rowP G w (bs j) r (rAt s r j) := by
  obtain ⟨hG, ho, ⟨hac, hcc⟩, ⟨hat, hfit, htp⟩, ⟨hal, hlit⟩, ⟨has, hst⟩, haw, ⟨har, hzt⟩, ⟨hau, hun, hut⟩, hcl, hinj⟩ := h
  obtain ⟨wtn, wtp, wcc, wln, wsn, wzn, wcol, wlit, wst, wzt⟩ := hW
  obtain ⟨⟨hk0, hk7⟩, hsc, hs2, hs3, hs4⟩ := wst j hj
  have hc := hsc h5
  obtain ⟨f, hR, hO⟩ := isR_of (hcl _ hc) (hr.1 h5) (wcol _ hc).2.1
  have hobj := (hst j hj).2
  unfold stF at hobj
  rw [if_pos h5] at hobj
  rcases step5 hk0 h5 with hk | hk | hk | hk | hk
  · rw [hk] at hobj
    exact ⟨_, 0, _, _, _, _, _, f, _, g_rf s (oP s j) r, g_lit s, oP s j, oM s j, 0, fun _ => none, hobj, hR, hO, by unfold rAt; rw [hk], Or.inl rfl⟩
  · rw [hk] at hobj
    exact ⟨_, 1, _, _, _, _, _, f, _, g_rf s (oP s j) r, g_lit s, oP s j, oM s j, 0, fun _ => none, hobj, hR, hO, by unfold rAt; rw [hk], Or.inr (Or.inl rfl)⟩
  · obtain ⟨P, N, e1, e2, e3, e4, e5⟩ := hs2 hk
    have hP : oP s j = P := by show (g_sp s j).toNatClampNeg = P; rw [e1]; exact nI_clamp (by omega)
    have hN : oM s j = N := by show (g_sm s j).toNatClampNeg = N; rw [e2]; exact nI_clamp (by omega)
    rw [hk, if_pos rfl] at hobj
    exact ⟨_, 2, _, _, _, _, _, f, _, g_rf s (oP s j) r, g_lit s, oP s j, oM s j, 0, fun _ => none, hobj, hR, hO, by unfold rAt; rw [hk], Or.inr (Or.inr (Or.inl ⟨rfl, by rw [hP]; exact e1, by rw [hN]; exact e2, by rw [hP, hN]; exact ⟨fl, hal, by omega, fun i h1 h2 => hlit i (by omega)⟩⟩))⟩
  · obtain ⟨-, P, e1, e3, e5⟩ := hs3 hk
    have hP : oP s j = P := by show (g_sp s j).toNatClampNeg = P; rw [e1]; exact nI_clamp (by omega)
    rw [hk] at hobj
    exact ⟨_, 3, _, _, _, _, _, f, _, g_rf s (oP s j) r, g_lit s, oP s j, oM s j, 0, fun _ => none, hobj, hR, hO, by unfold rAt; rw [hk], Or.inr (Or.inr (Or.inr (Or.inl ⟨rfl, by rw [hP]; exact e1, by rw [hP]; exact ⟨fl, hal, by omega, fun i h1 h2 => hlit i (by omega)⟩⟩)))⟩
  · obtain ⟨-, P, e1, e3, e5⟩ := hs4 hk
    have hP : oP s j = P := by show (g_sp s j).toNatClampNeg = P; rw [e1]; exact nI_clamp (by omega)
    have hr2 := hr.2 hk
    rw [hP] at hr2
    obtain ⟨f2, hR2, hO2⟩ := isR_of (hcl _ e3) hr2 (wcol _ e3).2.1
    rw [hk, if_pos rfl] at hobj
    exact ⟨_, 4, _, _, _, _, _, f, _, g_rf s P r, g_lit s, oP s j, oM s j, q 1 P, f2, hobj, hR, hO, by unfold rAt; rw [hk, hP], Or.inr (Or.inr (Or.inr (Or.inr ⟨rfl, by rw [show (g_sp s j).toNatClampNeg = P from hP], hR2, hO2⟩)))⟩
