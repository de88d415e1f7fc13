theorem step_row2 {G : jG} {w : jw} {s : jS} {q : Nat → Nat → Nat} {fl fs : Nat → Option Nat} {bs : Nat → Nat} (hal : jh w (q 0 2) (eR G 5 64 fl)) (hlit : ∀ j, j < g_ln s → ∃ b, fl j = some b ∧ isV G w b (g_lit s j)) (hst : ∀ j, j < g_sn s → fs j = some (bs j) ∧ jh w (bs j) (eO cS (stF q s j))) (hcl : ∀ c, c < g_cc s → colC G w q s c) (hW : WF s) {j r : Nat} (hj : j < g_sn s) (h5 : g_sk s j < 5) (hr : rowsOK s r j) : rowP G w (bs j) r (rAt s r j) := by
  obtain ⟨wtn, wtp, wcc, wln, wsn, wzn, wcol, wlit, wst, wzt⟩ := hW
  obtain ⟨⟨hk0, hk7⟩, hsc, hs2, hs3, hs4⟩ := wst j hj
  have hc := hsc h5
  obtain ⟨f, hR, hO⟩ := isR_of (hcl _ hc) (hr.1 h5) (wcol _ hc).2.1
  have hobj := (hst j hj).2
  unfold stF at hobj
  rw [if_pos h5] at hobj
  rcases step5 hk0 h5 with hk | hk | hk | hk | hk
  · rw [hk] at hobj
    exact ⟨_, 0, _, _, _, _, _, f, _, g_rf s (oP s j) r, g_lit s, oP s j, oM s j, 0, fun _ => none, hobj, hR, hO, by unfold rAt; rw [hk], Or.inl rfl⟩
  · rw [hk] at hobj
    exact ⟨_, 1, _, _, _, _, _, f, _, g_rf s (oP s j) r, g_lit s, oP s j, oM s j, 0, fun _ => none, hobj, hR, hO, by unfold rAt; rw [hk], Or.inr (Or.inl rfl)⟩
  · obtain ⟨P, N, e1, e2, e3, e4, e5⟩ := hs2 hk
    have hP : oP s j = P := by show (g_sp s j).toNatClampNeg = P; rw [e1]; exact nI_clamp (by omega)
    have hN : oM s j = N := by show (g_sm s j).toNatClampNeg = N; rw [e2]; exact nI_clamp (by omega)
    rw [hk, if_pos rfl] at hobj
    exact ⟨_, 2, _, _, _, _, _, f, _, g_rf s (oP s j) r, g_lit s, oP s j, oM s j, 0, fun _ => none, hobj, hR, hO, by unfold rAt; rw [hk], Or.inr (Or.inr (Or.inl ⟨rfl, by rw [hP]; exact e1, by rw [hN]; exact e2, by rw [hP, hN]; exact ⟨fl, hal, by omega, fun i h1 h2 => hlit i (by omega)⟩⟩))⟩
  · obtain ⟨-, P, e1, e3, e5⟩ := hs3 hk
    have hP : oP s j = P := by show (g_sp s j).toNatClampNeg = P; rw [e1]; exact nI_clamp (by omega)
    rw [hk] at hobj
    exact ⟨_, 3, _, _, _, _, _, f, _, g_rf s (oP s j) r, g_lit s, oP s j, oM s j, 0, fun _ => none, hobj, hR, hO, by unfold rAt; rw [hk], Or.inr (Or.inr (Or.inr (Or.inl ⟨rfl, by rw [hP]; exact e1, by rw [hP]; exact ⟨fl, hal, by omega, fun i h1 h2 => hlit i (by omega)⟩⟩)))⟩
  · obtain ⟨-, P, e1, e3, e5⟩ := hs4 hk
    have hP : oP s j = P := by show (g_sp s j).toNatClampNeg = P; rw [e1]; exact nI_clamp (by omega)
    have hr2 := hr.2 hk
    rw [hP] at hr2
    obtain ⟨f2, hR2, hO2⟩ := isR_of (hcl _ e3) hr2 (wcol _ e3).2.1
    rw [hk, if_pos rfl] at hobj
    exact ⟨_, 4, _, _, _, _, _, f, _, g_rf s P r, g_lit s, oP s j, oM s j, q 1 P, f2, hobj, hR, hO, by unfold rAt; rw [hk, hP], Or.inr (Or.inr (Or.inr (Or.inr ⟨rfl, by rw [show (g_sp s j).toNatClampNeg = P from hP], hR2, hO2⟩)))⟩
/-! A scan. -/
theorem RK_parts {G : jG} {w w' : jw} {o : Nat} {s : jS} {q : Nat → Nat → Nat} {un : Nat} {fc : Nat → Option Nat} {ft : Nat → Int32} {fl fs : Nat → Option Nat} {bs : Nat → Nat} {fw fr fu : Nat → Int32} {S : List Nat} (h : RK G w o s q un fc ft fl fs bs fw fr fu) (hS : ∀ a ∈ S, a = o ∨ ∃ i, i < 7 ∧ a = q 0 i) (K : KA w w' S) : ∀ c, c < g_cc s → colC G w' q s c := by
  have hM := RK_ms h hS
  obtain ⟨hG, ho, -, -, -, -, -, -, -, hcl, hinj⟩ := h
  intro c hc
  obtain ⟨fr1, kr1, km1, lA, hA, fe, ec1, fs1, a1, a2, a3, a4, a5, a6⟩ := id (hcl c hc)
  have nn : ∀ k, 1 ≤ k → k ≤ 4 → (∀ e, jh w (q k c) e → (∀ fs, e ≠ eO cT fs)) → q k c ∉ S := fun k k1 k2 hx hm => by
    rcases hS _ hm with z | ⟨i, hi, z⟩
    · exact hx _ (by rw [z]; exact ho) _ rfl
    · have := (hinj k c 0 i (vldc k1 k2 hc) (vld0 hi) z).1
      omega
  refine colC_keep K hM (nn 1 (by omega) (by omega) ?_) (nn 2 (by omega) (by omega) ?_) (nn 3 (by omega) (by omega) ?_) (nn 4 (by omega) (by omega) ?_) (hcl c hc)
  · intro e he fs hz; rw [jh_eq he a1] at hz; simp at hz
  · intro e he fs hz; rw [jh_eq he a2] at hz; simp at hz
  · intro e he fs hz; rw [jh_eq he a4] at hz; simp at hz
  · intro e he fs hz; rw [jh_eq he a5] at hz; simp at hz
def zS (s : jS) (r : Nat) : Int32 := outc (rAt s r) (g_sk s) (g_sn s)
def shR (s : jS) (n : Nat) : Bool := sHR (fun j => if g_sk s j < 5 then some 0 else none) (fun j => g_rc s (g_sc s j)) (fun j => if g_sk s j = 4 then some 0 else none) (fun j => g_rc s (oP s j)) n (g_sn s)
theorem sHR_congr {c1 c1' : Nat → Option Nat} {r1 : Nat → Nat} {c2 c2' : Nat → Option Nat} {r2 : Nat → Nat} {n : Nat} (h1 : ∀ j, c1 j = none ↔ c1' j = none) (h2 : ∀ j, c2 j = none ↔ c2' j = none) : ∀ m, sHR c1 r1 c2 r2 n m = sHR c1' r1 c2' r2 n m
  | 0 => rfl
  | m + 1 => by
    simp only [sHR]
    rw [sHR_congr h1 h2 m]
    simp only [h1 m, h2 m]
theorem sHR_all {c1 : Nat → Option Nat} {r1 : Nat → Nat} {c2 : Nat → Option Nat} {r2 : Nat → Nat} {n : Nat} : ∀ {m : Nat}, sHR c1 r1 c2 r2 n m = true → ∀ j, j < m → (c1 j = none ∨ n ≤ r1 j) ∧ (c2 j = none ∨ n ≤ r2 j)
  | 0, _, j, hj => by omega
  | m + 1, h, j, hj => by
    simp only [sHR, Bool.and_eq_true, Bool.or_eq_true, decide_eq_true_eq] at h
    by_cases q : j = m
    · subst q; exact ⟨h.1.2, h.2⟩
    · exact sHR_all h.1.1 j (by omega)
theorem shR_rows {s : jS} {n r j : Nat} (h : shR s n = true) (hj : j < g_sn s) (hr : r < n) : rowsOK s r j := by
  obtain ⟨h1, h2⟩ := sHR_all h j hj
  refine ⟨fun z => ?_, fun z => ?_⟩
  · rw [if_pos z] at h1
    rcases h1 with h1 | h1
    · cases h1
    · omega
  · rw [if_pos z] at h2
    rcases h2 with h2 | h2
    · cases h2
    · omega
def sp_scan (s : jS) (n : Int32) : Int32 × jS := if ¬ n < 0 ∧ n ≤ 1000 ∧ isCnd (g_sk s) (g_sn s) = true ∧ shR s n.toNatClampNeg = true then (nI (cnt (zS s) n.toNatClampNeg), s_zt (s_zn s n.toNatClampNeg) (zS s)) else (-1, s)
theorem cnt_t {z : Nat → Int32} {i : Nat} (h : z i = 2) : cnt z (i + 1) = cnt z i + 1 := by simp [cnt, h]
theorem cnt_f {z : Nat → Int32} {i : Nat} (h : ¬ z i = 2) : cnt z (i + 1) = cnt z i := by simp [cnt, h]
