/-! Changes of the object and its own arrays. -/
theorem RK_ms {G : jG} {w : jw} {o : Nat} {s : jS} {q : Nat → Nat → Nat} {un : Nat} {fc : Nat → Option Nat} {ft : Nat → Int32} {fl fs : Nat → Option Nat} {bs : Nat → Nat} {fw fr fu : Nat → Int32} {S : List Nat} (h : RK G w o s q un fc ft fl fs bs fw fr fu) (hS : ∀ a ∈ S, a = o ∨ ∃ i, i < 7 ∧ a = q 0 i) : MS G w S := by
  obtain ⟨hG, ho, ⟨hac, hcc⟩, ⟨hat, hfit, htp⟩, ⟨hal, hlit⟩, ⟨has, hst⟩, haw, ⟨har, hzt⟩, ⟨hau, hun, hut⟩, hcl, hinj⟩ := h
  intro a ha
  rcases hS a ha with rfl | ⟨i, hi, rfl⟩
  · exact ⟨_, ho, mE_T, fun _ => mS_T⟩
  · rcases (show i = 0 ∨ i = 1 ∨ i = 2 ∨ i = 3 ∨ i = 4 ∨ i = 5 ∨ i = 6 by omega) with rfl | rfl | rfl | rfl | rfl | rfl | rfl
    · exact ⟨_, hac, mE_R, fun _ => mS_R⟩
    · exact ⟨_, hat, mE_B, fun _ => mS_B⟩
    · exact ⟨_, hal, mE_R, fun _ => mS_R⟩
    · exact ⟨_, has, mE_R, fun _ => mS_R⟩
    · exact ⟨_, haw, mE_I hG, fun _ => mS_I⟩
    · exact ⟨_, har, mE_I hG, fun _ => mS_I⟩
    · exact ⟨_, hau, mE_I hG, fun _ => mS_I⟩
theorem RK_kl {G : jG} {w w' : jw} {o : Nat} {s : jS} {q : Nat → Nat → Nat} {un : Nat} {fc : Nat → Option Nat} {ft : Nat → Int32} {fl fs : Nat → Option Nat} {bs : Nat → Nat} {fw fr fu : Nat → Int32} {S : List Nat} (h : RK G w o s q un fc ft fl fs bs fw fr fu) (hS : ∀ a ∈ S, a = o ∨ ∃ i, i < 7 ∧ a = q 0 i) (K : KA w w' S) :
    (∀ j, j < g_ln s → ∃ b, fl j = some b ∧ isV G w' b (g_lit s j)) ∧ (∀ j, j < g_sn s → fs j = some (bs j) ∧ jh w' (bs j) (eO cS (stF q s j))) := by
  have hM := RK_ms h hS
  obtain ⟨hG, ho, ⟨hac, hcc⟩, ⟨hat, hfit, htp⟩, ⟨hal, hlit⟩, ⟨has, hst⟩, -⟩ := h
  refine ⟨fun j hj => ?_, fun j hj => ⟨(hst j hj).1, st_keep K hM (hst j hj).2⟩⟩
  obtain ⟨b, b1, b2⟩ := hlit j hj
  exact ⟨b, b1, isV_keep K hM.mu b2⟩
theorem RK_mk {G : jG} {w w' : jw} {o : Nat} {s t : jS} {q : Nat → Nat → Nat} {un un' : Nat} {fc fc' : Nat → Option Nat} {ft ft' : Nat → Int32} {fl fs fl' fs' : Nat → Option Nat} {bs bs' : Nat → Nat} {fw fr fu fw' fr' fu' : Nat → Int32} {S : List Nat}
    (h : RK G w o s q un fc ft fl fs bs fw fr fu) (hS : ∀ a ∈ S, a = o ∨ ∃ i, i < 7 ∧ a = q 0 i) (K : KA w w' S)
    (ho' : jh w' o (eO cT (tFs (q 0 0) (nI (g_cc t)) (q 0 1) (nI (g_tn t)) (q 0 2) (nI (g_ln t)) (q 0 3) (nI (g_sn t)) (q 0 4) (q 0 5) (nI (g_zn t)) (q 0 6) (nI un'))))
    (h0 : jh w' (q 0 0) (eR G 4 16 fc') ∧ ∀ c, c < g_cc t → fc' c = some (q 1 c))
    (h1 : jh w' (q 0 1) (eB G 1000 ft') ∧ fitB8 ft' ∧ ∀ j, j < g_tn t → ub (ft' j) = g_tp t j)
    (h2 : jh w' (q 0 2) (eR G 5 64 fl') ∧ ∀ j, j < g_ln t → ∃ b, fl' j = some b ∧ isV G w' b (g_lit t j))
    (h3 : jh w' (q 0 3) (eR G 6 64 fs') ∧ ∀ j, j < g_sn t → fs' j = some (bs' j) ∧ jh w' (bs' j) (eO cS (stF q t j)))
    (h4 : jh w' (q 0 4) (eI G 64 fw'))
    (h5 : jh w' (q 0 5) (eI G 1000 fr') ∧ ∀ j, j < g_zn t → fr' j = g_zt t j)
    (h6 : jh w' (q 0 6) (eI G 1000 fu') ∧ un' = cnt (g_zt t) (g_zn t) ∧ ∀ k, k < un' → ∃ r, r < g_zn t ∧ fu' k = nI r ∧ g_zt t r = 2 ∧ cnt (g_zt t) r = k)
    (ecc : g_cc s = g_cc t) (ec : ∀ c, c < g_cc s → colEq s t c) : RK G w' o t q un' fc' ft' fl' fs' bs' fw' fr' fu' := by
  have hM := RK_ms h hS
  obtain ⟨hG, ho, -, -, -, -, -, -, -, hcl, hinj⟩ := h
  refine ⟨hG, ho', h0, h1, h2, h3, h4, h5, h6, ?_, by rw [← ecc]; exact hinj⟩
  rw [← ecc]
  intro c hc
  obtain ⟨fr1, kr1, km1, lA, hA, fe, ec1, fs1, a1, a2, a3, a4, a5, a6⟩ := id (hcl c hc)
  have nn : ∀ k, 1 ≤ k → k ≤ 4 → (∀ e, jh w (q k c) e → (∀ fs, e ≠ eO cT fs)) → q k c ∉ S := fun k k1 k2 hx hm => by
    rcases hS _ hm with z | ⟨i, hi, z⟩
    · exact hx _ (by rw [z]; exact ho) _ rfl
    · have := (hinj k c 0 i (vldc k1 k2 hc) (vld0 hi) z).1
      omega
  refine colC_eq (ec c hc) (colC_keep K hM (nn 1 (by omega) (by omega) ?_) (nn 2 (by omega) (by omega) ?_) (nn 3 (by omega) (by omega) ?_) (nn 4 (by omega) (by omega) ?_) (hcl c hc))
  · intro e he fs hz; rw [jh_eq he a1] at hz; simp at hz
  · intro e he fs hz; rw [jh_eq he a2] at hz; simp at hz
  · intro e he fs hz; rw [jh_eq he a4] at hz; simp at hz
  · intro e he fs hz; rw [jh_eq he a5] at hz; simp at hz
def fb (a b c d e : Int32) (k : Nat) : Nat := if k < 4 then byt a k else if k < 8 then byt b (k - 4) else if k < 12 then byt c (k - 8) else if k < 16 then byt d (k - 12) else byt e (k - 16)
def sp_feed (s : jS) (a b c d e : Int32) : Int32 × jS := if g_tn s ≤ 980 then (1, s_tn (s_tp s (fun j => if j < g_tn s then g_tp s j else fb a b c d e (j - g_tn s))) (g_tn s + 20)) else (0, s)
def sp_literal (s : jS) (ty : Int32) (v : Int64) : Int32 × jS := if g_ln s < 64 ∧ nO ty v = true then (nI (g_ln s), s_ln (s_lit s (va_up (g_lit s) (g_ln s) (ty, v, []))) (g_ln s + 1)) else (-1, s)
def sp_litText (s : jS) (n : Int32) : Int32 × jS := if onT s n = true then (if g_ln s < 64 ∧ n ≤ 255 then (nI (g_ln s), s_ln (s_lit (s_tn s 0) (va_up (g_lit s) (g_ln s) (2, 0, tptx s n.toNatClampNeg))) (g_ln s + 1)) else (-1, s_tn s 0)) else (-1, s)
/-- a step's place of its other column or first literal; its number of literals -/
abbrev oP (s : jS) (j : Nat) : Nat := (g_sp s j).toNatClampNeg
abbrev oM (s : jS) (j : Nat) : Nat := (g_sm s j).toNatClampNeg
def moL (s : jS) (c : Nat) : jv := ((g_mo s c).map Prod.fst).getD (0, 0, [])
def moH (s : jS) (c : Nat) : jv := ((g_mo s c).map Prod.snd).getD (0, 0, [])
/-- what step j can be; what it is at row r -/
def cAt (s : jS) (j : Nat) : Int32 := tC1 (g_sk s j) (g_so s j) (g_kn s (g_sc s j)) (g_kr s (g_sc s j)) (g_km s (g_sc s j)) (moL s (g_sc s j)) (moH s (g_sc s j)) (g_ec s (g_sc s j)) (g_ef s (g_sc s j)) (g_kn s (oP s j)) (g_kr s (oP s j)) (g_km s (oP s j)) (moL s (oP s j)) (moH s (oP s j)) (g_lit s) (oP s j) (oM s j)
def rAt (s : jS) (r j : Nat) : Int32 := tR (g_sk s j) (g_so s j) (g_rf s (g_sc s j) r) (g_rf s (oP s j) r) (g_lit s) (oP s j) (oM s j)
def sp_can (s : jS) : Int32 := if isCnd (g_sk s) (g_sn s) = true then outc (cAt s) (g_sk s) (g_sn s) else -1
theorem isM_of {G : jG} {w : jw} {q : Nat → Nat → Nat} {s : jS} {c : Nat} (h : colC G w q s c) (hw : colOK s c) : ∃ kr km, isM G w (q 1 c) (g_kn s c) kr km (moL s c) (moH s c) (g_ec s c) (g_ef s c) ∧ (g_kn s c = true → kr = g_kr s c ∧ km = g_km s c) := by
  obtain ⟨fr1, kr1, km1, lA, hA, fe, ec1, fs1, a1, a2, a3, a4, a5, a6⟩ := h
  obtain ⟨-, -, -, -, hk⟩ := hw
  refine ⟨kr1, km1, ⟨_, _, _, _, lA, hA, _, ec1, _, a1, fun hkn hlt => ?_⟩, fun hkn => ⟨(a6 hkn).1, (a6 hkn).2.1⟩⟩
  obtain ⟨b1, b2, b3, b4, b5, b6⟩ := a6 hkn
  obtain ⟨-, -, -, hm, hec, -, -, -⟩ := hk hkn
  rw [b1, b2] at hlt
  obtain ⟨p, hp⟩ := Option.isSome_iff_exists.mp (hm hlt)
  have e1 : moL s c = p.1 := by unfold moL; rw [hp]; rfl
  have e2 : moH s c = p.2 := by unfold moH; rw [hp]; rfl
  rw [hp] at b5 b6
  cases lA with
  | none => cases b5
  | some l =>
    cases hA with
    | none => cases b6
    | some h2 =>
      obtain ⟨x, hx, hx2⟩ := isO_some b5
      obtain ⟨y, hy, hy2⟩ := isO_some b6
      cases hx
      cases hy
      rw [b3] at a1
      exact ⟨rfl, rfl, _, _, _, _, _, _, _, l, h2, _, fe, _, a1, by rw [e1]; exact hx2, by rw [e2]; exact hy2, a4, hec, b4⟩
theorem tC1_kn {kd op : Int32} {kn : Bool} {kr km kr' km' : Int32} {lo hi : jv} {ec : Nat} {ef : Nat → jv} {kn2 : Bool} {kr2 km2 kr2' km2' : Int32} {lo2 hi2 : jv} {lit : Nat → jv} {p m : Nat} (h : kn = true → kr = kr' ∧ km = km') (h2 : kn2 = true → kr2 = kr2' ∧ km2 = km2') : tC1 kd op kn kr km lo hi ec ef kn2 kr2 km2 lo2 hi2 lit p m = tC1 kd op kn kr' km' lo hi ec ef kn2 kr2' km2' lo2 hi2 lit p m := by
  cases kn with
  | false => unfold tC1; simp
  | true =>
    obtain ⟨rfl, rfl⟩ := h rfl
    cases kn2 with
    | false => unfold tC1; simp
    | true =>
      obtain ⟨rfl, rfl⟩ := h2 rfl
      rfl
theorem step5 {x : Int32} (h0 : 0 ≤ x) (h : x < 5) : x = 0 ∨ x = 1 ∨ x = 2 ∨ x = 3 ∨ x = 4 := by
  have h1 : ¬ x < 0 := by simpa using h0
  obtain ⟨n, hn, rfl⟩ := nI_of h1
  have h2 := (nI_ltI hn (show 5 < 2 ^ 31 by omega)).mp h
  rcases (show n = 0 ∨ n = 1 ∨ n = 2 ∨ n = 3 ∨ n = 4 by omega) with rfl | rfl | rfl | rfl | rfl
  · exact Or.inl rfl
  · exact Or.inr (Or.inl rfl)
  · exact Or.inr (Or.inr (Or.inl rfl))
  · exact Or.inr (Or.inr (Or.inr (Or.inl rfl)))
  · exact Or.inr (Or.inr (Or.inr (Or.inr rfl)))
