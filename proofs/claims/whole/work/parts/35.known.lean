/-! What is known of a column: known, dictionary. -/
theorem mm_both (f : Nat → Option jv) : ∀ n, (mnR f n).isSome = (mxR f n).isSome
  | 0 => rfl
  | n + 1 => by
    have h := mm_both f n
    cases hf : f n with
    | none => rw [mnR_n hf, mxR_n hf]; exact h
    | some x =>
      cases h1 : mnR f n with
      | none =>
        rw [h1] at h
        cases h2 : mxR f n with
        | none => rw [mnR_a hf h1, mxR_a hf h2]
        | some y => rw [h2] at h; cases h
      | some y =>
        rw [h1] at h
        cases h2 : mxR f n with
        | none => rw [h2] at h; cases h
        | some z =>
          by_cases a : vc x y < 0
          · by_cases b : 0 < vc x z
            · rw [mnR_b hf h1 a, mxR_b hf h2 b]
            · rw [mnR_b hf h1 a, mxR_c hf h2 b]; rfl
          · by_cases b : 0 < vc x z
            · rw [mnR_c hf h1 a, mxR_b hf h2 b]; rfl
            · rw [mnR_c hf h1 a, mxR_c hf h2 b]; rfl
def mmR (f : Nat → Option jv) (n : Nat) : Option (jv × jv) := match mnR f n, mxR f n with
  | some l, some h => some (l, h)
  | _, _ => none
theorem mm_fst (f : Nat → Option jv) (n : Nat) : (mmR f n).map Prod.fst = mnR f n := by
  have h := mm_both f n
  unfold mmR
  cases h1 : mnR f n with
  | none => rfl
  | some x =>
    cases h2 : mxR f n with
    | none => rw [h1, h2] at h; cases h
    | some y => rfl
theorem mm_snd (f : Nat → Option jv) (n : Nat) : (mmR f n).map Prod.snd = mxR f n := by
  have h := mm_both f n
  unfold mmR
  cases h1 : mnR f n with
  | none =>
    cases h2 : mxR f n with
    | none => rfl
    | some y => rw [h1, h2] at h; cases h
  | some x =>
    cases h2 : mxR f n with
    | none => rfl
    | some y => rfl
def learnt (s : jS) (c : Nat) (rows ms1 : Int32) : jS := s_ec (s_mo (s_km (s_kr (s_kn s (va_up (g_kn s) c true)) (va_up (g_kr s) c rows)) (va_up (g_km s) c ms1)) (va_up (g_mo s) c (mmR (g_rf s c) (g_rc s c)))) (va_up (g_ec s) c 0)
def sp_known (s : jS) (x rows ms1 : Int32) : Int32 × jS := match cix s x with
  | none => (0, s)
  | some c => if (¬ ms1 < 0 ∧ ms1 ≤ rows ∧ rows ≤ 1000000) ∧ ¬ (mnR (g_rf s c) (g_rc s c) = none ∧ ms1 < rows) then (1, learnt s c rows ms1) else (0, s)
def sp_dict (s : jS) (x : Int32) : Int32 × jS := match cix s x with
  | none => (0, s)
  | some c => match dcr (g_kn s c) ((g_mo s c).map Prod.fst) ((g_mo s c).map Prod.snd) (g_rf s c) (g_rc s c) with
    | none => (0, s)
    | some (k, g) => (1, s_ef (s_ec s (va_up (g_ec s) c k)) (va_up (g_ef s) c g))
/-- as RK_col, where the column's two word arrays may have changed places -/
theorem RK_colq {G : jG} {w w' : jw} {o : Nat} {s t : jS} {q p : Nat → Nat → Nat} {un : Nat} {fc : Nat → Option Nat} {ft : Nat → Int32} {fl fs : Nat → Option Nat} {bs : Nat → Nat} {fw fr fu : Nat → Int32} {c : Nat} {S : List Nat}
    (h : RK G w o s q un fc ft fl fs bs fw fr fu) (hc : c < g_cc s) (e : sameRest s t) (ec : ∀ c', c' ≠ c → colEq s t c') (K : KA w w' S) (hM : MS G w S) (hS : ∀ a ∈ S, ∃ k, 1 ≤ k ∧ k ≤ 4 ∧ a = q k c) (p0 : p 0 = q 0) (p1 : p 1 = q 1) (pc : ∀ k c', c' ≠ c → p k c' = q k c') (hp : ∀ k i k' i', vld (g_cc s) k i → vld (g_cc s) k' i' → p k i = p k' i' → k = k' ∧ i = i') (hcol : colC G w' p t c) : RK G w' o t p un fc ft fl fs bs fw fr fu := by
  obtain ⟨hG, ho, ⟨hac, hcc⟩, ⟨hat, hfit, htp⟩, ⟨hal, hlit⟩, ⟨has, hst⟩, haw, ⟨har, hzt⟩, ⟨hau, hun, hut⟩, hcl, hinj⟩ := h
  obtain ⟨e1, e2, e3, e4, e5, e6, e7, e8, e9, e10, e11, e12, e13⟩ := id e
  have n0 : ∀ i, i < 7 → q 0 i ∉ S := fun i hi hm => by
    obtain ⟨k, k1, k2, k3⟩ := hS _ hm
    have := (hinj 0 i k c (vld0 hi) (vldc k1 k2 hc) k3).1
    omega
  have nc : ∀ c' k, c' ≠ c → c' < g_cc s → 1 ≤ k → k ≤ 4 → q k c' ∉ S := fun c' k hn hl q1 q2 hm => by
    obtain ⟨k2, k3, k4, k5⟩ := hS _ hm
    exact hn (hinj k c' k2 c (vldc q1 q2 hl) (vldc k3 k4 hc) k5).2
  have no : o ∉ S := fun hm => by
    obtain ⟨k, k1, k2, rfl⟩ := hS _ hm
    obtain ⟨fr1, kr1, km1, lA, hA, fe, ec1, fs1, a1, a2, -, a4, a5, -⟩ := hcl c hc
    rcases (show k = 1 ∨ k = 2 ∨ k = 3 ∨ k = 4 by omega) with rfl | rfl | rfl | rfl
    · have z := jh_eq ho a1
      simp at z
    · have z := jh_eq ho a2
      simp at z
    · have z := jh_eq ho a4
      simp at z
    · have z := jh_eq ho a5
      simp at z
  have hsf : ∀ j, stF p t j = stF q s j := fun j => by
    rw [← stF_eq e]
    unfold stF
    rw [p0, p1]
  unfold RK
  rw [p0, p1]
  refine ⟨hG, ?_, ⟨K _ _ (n0 0 (by omega)) hac, ?_⟩, ⟨K _ _ (n0 1 (by omega)) hat, hfit, ?_⟩, ⟨K _ _ (n0 2 (by omega)) hal, ?_⟩, ⟨K _ _ (n0 3 (by omega)) has, ?_⟩, K _ _ (n0 4 (by omega)) haw, ⟨K _ _ (n0 5 (by omega)) har, ?_⟩, ⟨K _ _ (n0 6 (by omega)) hau, ?_, ?_⟩, ?_, ?_⟩
  · rw [← e1, ← e3, ← e4, ← e6, ← e12]; exact K _ _ no ho
  · rw [← e3]; exact hcc
  · rw [← e1, ← e2]; exact htp
  · rw [← e4, ← e5]
    intro j hj
    obtain ⟨b, b1, b2⟩ := hlit j hj
    exact ⟨b, b1, isV_keep K hM.mu b2⟩
  · rw [← e6]
    intro j hj
    obtain ⟨b1, b2⟩ := hst j hj
    exact ⟨b1, by rw [hsf]; exact st_keep K hM b2⟩
  · rw [← e12, ← e13]; exact hzt
  · rw [← e12, ← e13]; exact hun
  · rw [← e12, ← e13]; exact hut
  · rw [← e3]
    intro c' hc'
    by_cases z : c' = c
    · subst z; exact hcol
    · have h1 := colC_eq (ec c' z) (colC_keep K hM (nc c' 1 z hc' (by omega) (by omega)) (nc c' 2 z hc' (by omega) (by omega)) (nc c' 3 z hc' (by omega) (by omega)) (nc c' 4 z hc' (by omega) (by omega)) (hcl c' hc'))
      unfold colC at h1 ⊢
      rw [pc 1 c' z, pc 2 c' z, pc 3 c' z, pc 4 c' z]
      exact h1
  · rw [← e3]; exact hp
def swq (q : Nat → Nat → Nat) (c : Nat) : Nat → Nat → Nat := fun k i => if i = c then (if k = 3 then q 4 c else if k = 4 then q 3 c else q k i) else q k i
theorem swq_ok {q : Nat → Nat → Nat} {c n : Nat} (hc : c < n) (h : ∀ k i k' i', vld n k i → vld n k' i' → q k i = q k' i' → k = k' ∧ i = i') (h0 : ∀ k, q 0 k = swq q c 0 k) : ∀ k i k' i', vld n k i → vld n k' i' → swq q c k i = swq q c k' i' → k = k' ∧ i = i' := by
  have key : ∀ k i, vld n k i → ∃ m, vld n m i ∧ swq q c k i = q m i ∧ (m = if i = c then (if k = 3 then 4 else if k = 4 then 3 else k) else k) := by
    intro k i hv
    by_cases hi : i = c
    · subst hi
      by_cases h3 : k = 3
      · subst h3
        exact ⟨4, vldc (by omega) (by omega) hc, by simp [swq], by simp⟩
      · by_cases h4 : k = 4
        · subst h4
          exact ⟨3, vldc (by omega) (by omega) hc, by simp [swq], by simp⟩
        · exact ⟨k, hv, by simp [swq, h3, h4], by simp [h3, h4]⟩
    · exact ⟨k, hv, by simp [swq, hi], by simp [hi]⟩
  intro k i k' i' hv hv' he
  obtain ⟨m, hm, e1, e2⟩ := key k i hv
  obtain ⟨m', hm', e1', e2'⟩ := key k' i' hv'
  rw [e1, e1'] at he
  obtain ⟨z1, z2⟩ := h m i m' i' hm hm' he
  subst z2
  refine ⟨?_, rfl⟩
  rw [e2, e2'] at z1
  by_cases hi : i = c
  · simp only [if_pos hi] at z1
    by_cases a3 : k = 3
    · by_cases b3 : k' = 3
      · omega
      · by_cases b4 : k' = 4
        · simp [a3, b4] at z1
        · simp [a3, b3, b4] at z1
          omega
    · by_cases a4 : k = 4
      · by_cases b3 : k' = 3
        · simp [a4, b3] at z1
        · by_cases b4 : k' = 4
          · omega
          · simp [a4, b3, b4] at z1
            omega
      · by_cases b3 : k' = 3
        · simp [a3, a4, b3] at z1
        · by_cases b4 : k' = 4
          · simp [a3, a4, b4] at z1
          · simp only [if_neg a3, if_neg a4, if_neg b3, if_neg b4] at z1
            exact z1
  · simp only [if_neg hi] at z1
    exact z1
