/-! What calls answer and leave, in pure words (first part); how one column's change keeps the rest. -/
def cix (s : jS) (x : Int32) : Option Nat := if x < 0 ∨ ¬ x < nI (g_cc s) then none else some x.toNatClampNeg
theorem cix_some {s : jS} {x : Int32} {c : Nat} (hc : g_cc s ≤ 16) (h : cix s x = some c) : c < g_cc s ∧ x = nI c := by
  unfold cix at h
  split at h
  · cases h
  · rename_i q
    have h1 : ¬ x < 0 := fun z => q (Or.inl z)
    have h2 : x < nI (g_cc s) := by
      by_cases z : x < nI (g_cc s)
      · exact z
      · exact absurd (Or.inr z) q
    obtain ⟨j, hj, rfl⟩ := nI_of h1
    rw [nI_clamp hj] at h
    cases h
    exact ⟨(nI_ltI hj (by omega)).mp h2, rfl⟩
theorem vAt_cix {s : jS} {x : Int32} {f : Nat → Option Nat} {q : Nat → Nat → Nat} (hc : g_cc s ≤ 16) (h : ∀ c, c < g_cc s → f c = some (q 1 c)) : vAt f (g_cc s) x = (cix s x).map (q 1) := by
  cases hx : cix s x with
  | none =>
    unfold cix at hx
    split at hx
    · rename_i z
      unfold vAt
      rw [if_pos z]
      rfl
    · cases hx
  | some c =>
    obtain ⟨h1, rfl⟩ := cix_some hc hx
    unfold cix at hx
    split at hx
    · cases hx
    · rename_i z
      unfold vAt
      rw [if_neg z, nI_clamp (by omega), h c h1]
      rfl
def colEq (s t : jS) (c : Nat) : Prop := g_ty s c = g_ty t c ∧ g_rc s c = g_rc t c ∧ g_rf s c = g_rf t c ∧ g_kn s c = g_kn t c ∧ g_kr s c = g_kr t c ∧ g_km s c = g_km t c ∧ g_mo s c = g_mo t c ∧ g_ec s c = g_ec t c ∧ g_ef s c = g_ef t c
theorem colC_eq {G : jG} {w : jw} {q : Nat → Nat → Nat} {s t : jS} {c : Nat} (e : colEq s t c) (h : colC G w q s c) : colC G w q t c := by
  obtain ⟨e1, e2, e3, e4, e5, e6, e7, e8, e9⟩ := e
  unfold colC at h ⊢
  rw [e1, e2, e3, e4, e5, e6, e7, e8, e9] at h
  exact h
def sameRest (s t : jS) : Prop := g_tn s = g_tn t ∧ g_tp s = g_tp t ∧ g_cc s = g_cc t ∧ g_ln s = g_ln t ∧ g_lit s = g_lit t ∧ g_sn s = g_sn t ∧ g_sk s = g_sk t ∧ g_sc s = g_sc t ∧ g_so s = g_so t ∧ g_sp s = g_sp t ∧ g_sm s = g_sm t ∧ g_zn s = g_zn t ∧ g_zt s = g_zt t
theorem stF_eq {q : Nat → Nat → Nat} {s t : jS} {j : Nat} (e : sameRest s t) : stF q s j = stF q t j := by
  obtain ⟨-, -, -, -, -, -, e1, e2, e3, e4, e5, -⟩ := e
  unfold stF
  rw [e1, e2, e3, e4, e5]
theorem RK_col {G : jG} {w w' : jw} {o : Nat} {s t : jS} {q : Nat → Nat → Nat} {un : Nat} {fc : Nat → Option Nat} {ft : Nat → Int32} {fl fs : Nat → Option Nat} {bs : Nat → Nat} {fw fr fu : Nat → Int32} {c : Nat} {S : List Nat}
    (h : RK G w o s q un fc ft fl fs bs fw fr fu) (hc : c < g_cc s) (e : sameRest s t) (ec : ∀ c', c' ≠ c → colEq s t c') (K : KA w w' S) (hM : MS G w S) (hS : ∀ a ∈ S, ∃ k, 1 ≤ k ∧ k ≤ 4 ∧ a = q k c) (hcol : colC G w' q t c) : RK G w' o t q un fc ft fl fs bs fw fr fu := by
  obtain ⟨hG, ho, ⟨hac, hcc⟩, ⟨hat, hfit, htp⟩, ⟨hal, hlit⟩, ⟨has, hst⟩, haw, ⟨har, hzt⟩, ⟨hau, hun, hut⟩, hcl, hinj⟩ := h
  obtain ⟨e1, e2, e3, e4, e5, e6, e7, e8, e9, e10, e11, e12, e13⟩ := id e
  have n0 : ∀ i, i < 7 → q 0 i ∉ S := fun i hi hm => by
    obtain ⟨k, k1, k2, k3⟩ := hS _ hm
    have := (hinj 0 i k c (vld0 hi) (vldc k1 k2 hc) k3).1
    omega
  have nc : ∀ c' k, c' ≠ c → c' < g_cc s → 1 ≤ k → k ≤ 4 → q k c' ∉ S := fun c' k hn hl q1 q2 hm => by
    obtain ⟨k2, k3, k4, k5⟩ := hS _ hm
    exact hn (hinj k c' k2 c (vldc q1 q2 hl) (vldc k3 k4 hc) k5).2
  have no : o ∉ S := fun hm => by
    obtain ⟨k, k1, k2, rfl⟩ := hS _ hm
    obtain ⟨fr1, kr1, km1, lA, hA, fe, ec1, fs1, a1, a2, -, a4, a5, -⟩ := hcl c hc
    rcases (show k = 1 ∨ k = 2 ∨ k = 3 ∨ k = 4 by omega) with rfl | rfl | rfl | rfl
    · have z := jh_eq ho a1
      simp at z
    · have z := jh_eq ho a2
      simp at z
    · have z := jh_eq ho a4
      simp at z
    · have z := jh_eq ho a5
      simp at z
  refine ⟨hG, ?_, ⟨K _ _ (n0 0 (by omega)) hac, ?_⟩, ⟨K _ _ (n0 1 (by omega)) hat, hfit, ?_⟩, ⟨K _ _ (n0 2 (by omega)) hal, ?_⟩, ⟨K _ _ (n0 3 (by omega)) has, ?_⟩, K _ _ (n0 4 (by omega)) haw, ⟨K _ _ (n0 5 (by omega)) har, ?_⟩, ⟨K _ _ (n0 6 (by omega)) hau, ?_, ?_⟩, ?_, ?_⟩
  · rw [← e1, ← e3, ← e4, ← e6, ← e12]; exact K _ _ no ho
  · rw [← e3]; exact hcc
  · rw [← e1, ← e2]; exact htp
  · rw [← e4, ← e5]
    intro j hj
    obtain ⟨b, b1, b2⟩ := hlit j hj
    exact ⟨b, b1, isV_keep K hM.mu b2⟩
  · rw [← e6]
    intro j hj
    obtain ⟨b1, b2⟩ := hst j hj
    exact ⟨b1, by rw [← stF_eq e]; exact st_keep K hM b2⟩
  · rw [← e12, ← e13]; exact hzt
  · rw [← e12, ← e13]; exact hun
  · rw [← e12, ← e13]; exact hut
  · rw [← e3]
    intro c' hc'
    by_cases z : c' = c
    · subst z; exact hcol
    · exact colC_eq (ec c' z) (colC_keep K hM (nc c' 1 z hc' (by omega) (by omega)) (nc c' 2 z hc' (by omega) (by omega)) (nc c' 3 z hc' (by omega) (by omega)) (nc c' 4 z hc' (by omega) (by omega)) (hcl c' hc'))
  · rw [← e3]; exact hinj
def sp_clear (s : jS) (x : Int32) : Int32 × jS := match cix s x with
  | none => (0, s)
  | some c => (1, s_rc s (va_up (g_rc s) c 0))
def sp_unknown (s : jS) (x : Int32) : Int32 × jS := match cix s x with
  | none => (0, s)
  | some c => (1, s_kn s (va_up (g_kn s) c false))
def sp_forget (s : jS) : jS := s_sn (s_ln s 0) 0
def trv (z : Int32) : Int32 := if z = 1 then 0 else if z = 2 then 1 else 2
def sp_truth (s : jS) (x : Int32) : Int32 := if x < 0 ∨ nI (g_zn s) ≤ x then -1 else trv (g_zt s x.toNatClampNeg)
/-- the k-th true row of the first n -/
def kthN (z : Nat → Int32) (k : Nat) : Nat → Option Nat
  | 0 => none
  | n + 1 => match kthN z k n with
    | some r => some r
    | none => if z n = 2 ∧ cnt z n = k then some n else none
def sp_chosen (s : jS) (x : Int32) : Int32 := if x < 0 then -1 else match kthN (g_zt s) x.toNatClampNeg (g_zn s) with
  | some r => nI r
  | none => -1
theorem cnt_mono {z : Nat → Int32} {a : Nat} : ∀ {b : Nat}, a ≤ b → cnt z a ≤ cnt z b
  | 0, h => by have : a = 0 := by omega
               subst this; exact Nat.le_refl _
  | b + 1, h => by
    by_cases q : a = b + 1
    · subst q; exact Nat.le_refl _
    · have := cnt_mono (z := z) (a := a) (b := b) (by omega)
      simp only [cnt]
      omega
theorem cnt_le {z : Nat → Int32} : ∀ n, cnt z n ≤ n
  | 0 => Nat.le_refl _
  | n + 1 => by
    have := cnt_le (z := z) n
    simp only [cnt]
    split <;> omega
theorem kthN_none {z : Nat → Int32} {k : Nat} : ∀ {n : Nat}, cnt z n ≤ k → kthN z k n = none
  | 0, _ => rfl
  | n + 1, h => by
    have h1 : cnt z n ≤ cnt z (n + 1) := cnt_mono (Nat.le_succ n)
    have h2 := kthN_none (z := z) (k := k) (n := n) (by omega)
    simp only [kthN, h2]
    rw [if_neg]
    rintro ⟨a, b⟩
    simp only [cnt, if_pos a] at h
    omega
theorem kthN_some {z : Nat → Int32} {k r : Nat} (hr : z r = 2) (hk : cnt z r = k) : ∀ {n : Nat}, r < n → kthN z k n = some r
  | 0, h => by omega
  | n + 1, h => by
    by_cases q : r = n
    · subst q
      simp only [kthN, kthN_none (Nat.le_of_eq hk)]
      rw [if_pos ⟨hr, hk⟩]
    · simp only [kthN, kthN_some hr hk (n := n) (by omega)]
/-- a change of the object itself (its counts), of arrays that are not columns' -/
theorem RK_o {G : jG} {w w' : jw} {o : Nat} {s t : jS} {q : Nat → Nat → Nat} {un : Nat} {fc : Nat → Option Nat} {ft : Nat → Int32} {fl fs : Nat → Option Nat} {bs : Nat → Nat} {fw fr fu : Nat → Int32}
    (h : RK G w o s q un fc ft fl fs bs fw fr fu) (K : KA w w' [o])
    (ho' : jh w' o (eO cT (tFs (q 0 0) (nI (g_cc t)) (q 0 1) (nI (g_tn t)) (q 0 2) (nI (g_ln t)) (q 0 3) (nI (g_sn t)) (q 0 4) (q 0 5) (nI (g_zn t)) (q 0 6) (nI un)))) (ecc : g_cc s = g_cc t) (ety : g_ty s = g_ty t)
    (elit : ∀ j, j < g_ln t → j < g_ln s ∧ g_lit t j = g_lit s j) (est : ∀ j, j < g_sn t → j < g_sn s ∧ stF q t j = stF q s j) (etp : ∀ j, j < g_tn t → ub (ft j) = g_tp t j) (ezt : ∀ j, j < g_zn t → fr j = g_zt t j) (eun : un = cnt (g_zt t) (g_zn t)) (eut : ∀ k, k < un → ∃ r, r < g_zn t ∧ fu k = nI r ∧ g_zt t r = 2 ∧ cnt (g_zt t) r = k)
    (ec : ∀ c, c < g_cc s → colEq s t c) : RK G w' o t q un fc ft fl fs bs fw fr fu := by
  obtain ⟨hG, ho, ⟨hac, hcc⟩, ⟨hat, hfit, htp⟩, ⟨hal, hlit⟩, ⟨has, hst⟩, haw, ⟨har, hzt⟩, ⟨hau, hun, hut⟩, hcl, hinj⟩ := h
  have hM : MS G w [o] := MS.cons ho mE_T (fun _ => mS_T) MS.nil
  have nR : ∀ {a k n f}, jh w a (eR G k n f) → a ∉ [o] := fun h z => by
    rw [List.mem_singleton.mp z] at h
    have z := jh_eq h ho
    simp at z
  have nI' : ∀ {a n f}, jh w a (eI G n f) → a ∉ [o] := fun h z => by
    rw [List.mem_singleton.mp z] at h
    have z := jh_eq h ho
    simp at z
  have nB : ∀ {a n f}, jh w a (eB G n f) → a ∉ [o] := fun h z => by
    rw [List.mem_singleton.mp z] at h
    have z := jh_eq h ho
    simp at z
  have nC : ∀ {a f}, jh w a (eO cC f) → a ∉ [o] := fun h z => by
    rw [List.mem_singleton.mp z] at h
    have z := jh_eq h ho
    simp at z
  refine ⟨hG, ho', ⟨K _ _ (nR hac) hac, by rw [← ecc]; exact hcc⟩, ⟨K _ _ (nB hat) hat, hfit, etp⟩, ⟨K _ _ (nR hal) hal, fun j hj => ?_⟩, ⟨K _ _ (nR has) has, fun j hj => ?_⟩, K _ _ (nI' haw) haw, ⟨K _ _ (nI' har) har, ezt⟩, ⟨K _ _ (nI' hau) hau, eun, eut⟩, ?_, by rw [← ecc]; exact hinj⟩
  · obtain ⟨h1, h2⟩ := elit j hj
    obtain ⟨b, b1, b2⟩ := hlit j h1
    exact ⟨b, b1, by rw [h2]; exact isV_keep K hM.mu b2⟩
  · obtain ⟨h1, h2⟩ := est j hj
    obtain ⟨b1, b2⟩ := hst j h1
    exact ⟨b1, by rw [h2]; exact st_keep K hM b2⟩
  · rw [← ecc]
    intro c hc
    obtain ⟨fr1, kr1, km1, lA, hA, fe, ec1, fs1, a1, a2, a3, a4, a5, a6⟩ := id (hcl c hc)
    exact colC_eq (ec c hc) (colC_keep K hM (nC a1) (nR a2) (nR a4) (nR a5) (hcl c hc))
