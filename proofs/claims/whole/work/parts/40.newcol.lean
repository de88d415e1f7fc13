/-! A new column. -/
def nwq (q : Nat → Nat → Nat) (n a ra ea sa : Nat) : Nat → Nat → Nat := fun k i => if i = n then (if k = 1 then a else if k = 2 then ra else if k = 3 then ea else if k = 4 then sa else q k i) else q k i
def newcol (s : jS) (ty : Int32) : jS := s_cc (s_ty (s_rc (s_kn s (va_up (g_kn s) (g_cc s) false)) (va_up (g_rc s) (g_cc s) 0)) (va_up (g_ty s) (g_cc s) ty)) (g_cc s + 1)
def sp_column (s : jS) (ty : Int32) : Int32 × jS := if g_cc s < 16 ∧ ¬ ty < 0 ∧ ty ≤ 2 then (nI (g_cc s), newcol s ty) else (-1, s)
theorem nwq_inj {q : Nat → Nat → Nat} {n a ra ea sa : Nat} {W : List Nat} (hn : n < 16) (h : ∀ k i k' i', vld n k i → vld n k' i' → q k i = q k' i' → k = k' ∧ i = i') (hW : ∀ k i, vld n k i → q k i ∈ W) (h0 : ∀ i, i < 7 → q 0 i ∈ W)
    (f1 : a ∉ W) (f2 : ra ∉ W) (f3 : ea ∉ W) (f4 : sa ∉ W) (d : a ≠ ra ∧ a ≠ ea ∧ a ≠ sa ∧ ra ≠ ea ∧ ra ≠ sa ∧ ea ≠ sa) : ∀ k i k' i', vld (n + 1) k i → vld (n + 1) k' i' → nwq q n a ra ea sa k i = nwq q n a ra ea sa k' i' → k = k' ∧ i = i' := by
  have key : ∀ k i, vld (n + 1) k i → (vld n k i ∧ nwq q n a ra ea sa k i = q k i ∧ nwq q n a ra ea sa k i ∈ W) ∨ (i = n ∧ ((k = 1 ∧ nwq q n a ra ea sa k i = a) ∨ (k = 2 ∧ nwq q n a ra ea sa k i = ra) ∨ (k = 3 ∧ nwq q n a ra ea sa k i = ea) ∨ (k = 4 ∧ nwq q n a ra ea sa k i = sa))) := by
    intro k i hv
    rcases hv with ⟨rfl, hi⟩ | ⟨h1, h2, h3⟩
    · refine Or.inl ⟨vld0 hi, ?_, ?_⟩
      · simp [nwq]
      · have : nwq q n a ra ea sa 0 i = q 0 i := by simp [nwq]
        rw [this]
        exact h0 i hi
    · by_cases hi : i = n
      · refine Or.inr ⟨hi, ?_⟩
        rcases (show k = 1 ∨ k = 2 ∨ k = 3 ∨ k = 4 by omega) with rfl | rfl | rfl | rfl
        · exact Or.inl ⟨rfl, by simp [nwq, hi]⟩
        · exact Or.inr (Or.inl ⟨rfl, by simp [nwq, hi]⟩)
        · exact Or.inr (Or.inr (Or.inl ⟨rfl, by simp [nwq, hi]⟩))
        · exact Or.inr (Or.inr (Or.inr ⟨rfl, by simp [nwq, hi]⟩))
      · have e : nwq q n a ra ea sa k i = q k i := by simp [nwq, hi]
        have hv : vld n k i := vldc h1 h2 (by omega)
        exact Or.inl ⟨hv, e, by rw [e]; exact hW k i hv⟩
  obtain ⟨d1, d2, d3, d4, d5, d6⟩ := d
  intro k i k' i' hv hv' he
  rcases key k i hv with ⟨v1, e1, m1⟩ | ⟨rfl, c1⟩
  · rcases key k' i' hv' with ⟨v2, e2, m2⟩ | ⟨rfl, c2⟩
    · rw [e1, e2] at he
      exact h k i k' i' v1 v2 he
    · exfalso
      rcases c2 with ⟨-, c⟩ | ⟨-, c⟩ | ⟨-, c⟩ | ⟨-, c⟩
      · exact f1 (by rw [← c, ← he]; exact m1)
      · exact f2 (by rw [← c, ← he]; exact m1)
      · exact f3 (by rw [← c, ← he]; exact m1)
      · exact f4 (by rw [← c, ← he]; exact m1)
  · rcases key k' i' hv' with ⟨v2, e2, m2⟩ | ⟨rfl, c2⟩
    · exfalso
      rcases c1 with ⟨-, c⟩ | ⟨-, c⟩ | ⟨-, c⟩ | ⟨-, c⟩
      · exact f1 (by rw [← c, he]; exact m2)
      · exact f2 (by rw [← c, he]; exact m2)
      · exact f3 (by rw [← c, he]; exact m2)
      · exact f4 (by rw [← c, he]; exact m2)
    · refine ⟨?_, rfl⟩
      rcases c1 with ⟨k1, c⟩ | ⟨k1, c⟩ | ⟨k1, c⟩ | ⟨k1, c⟩ <;> rcases c2 with ⟨k2, c'⟩ | ⟨k2, c'⟩ | ⟨k2, c'⟩ | ⟨k2, c'⟩ <;> first | omega | (exfalso; rw [c, c'] at he; first | exact d1 he | exact d2 he | exact d3 he | exact d4 he | exact d5 he | exact d6 he | exact d1 he.symm | exact d2 he.symm | exact d3 he.symm | exact d4 he.symm | exact d5 he.symm | exact d6 he.symm)
theorem RK_newcol {G : jG} {w w' : jw} {o : Nat} {s : jS} {q : Nat → Nat → Nat} {un : Nat} {fc : Nat → Option Nat} {ft : Nat → Int32} {fl fs : Nat → Option Nat} {bs : Nat → Nat} {fw fr fu : Nat → Int32} {a ra ea sa : Nat} {ty : Int32}
    (h : RK G w o s q un fc ft fl fs bs fw fr fu) (hW : WF s) (hn : g_cc s < 16) (f1 : a ∉ w.1) (f2 : ra ∉ w.1) (f3 : ea ∉ w.1) (f4 : sa ∉ w.1) (d : a ≠ ra ∧ a ≠ ea ∧ a ≠ sa ∧ ra ≠ ea ∧ ra ≠ sa ∧ ea ≠ sa) (K : KA w w' [o, q 0 0])
    (ho' : jh w' o (eO cT (tFs (q 0 0) (nI (g_cc s + 1)) (q 0 1) (nI (g_tn s)) (q 0 2) (nI (g_ln s)) (q 0 3) (nI (g_sn s)) (q 0 4) (q 0 5) (nI (g_zn s)) (q 0 6) (nI un))))
    (h0 : jh w' (q 0 0) (eR G 4 16 (va_up fc (g_cc s) (some a)))) (ha : jh w' a (eO cC (kFs ty ra 0 0 0 0 0 none none ea 0 sa))) (hra : jh w' ra (eR G 5 1000 (fun _ => none))) (hea : jh w' ea (eR G 5 100 (fun _ => none))) (hsa : jh w' sa (eR G 5 100 (fun _ => none))) :
    RK G w' o (newcol s ty) (nwq q (g_cc s) a ra ea sa) un (va_up fc (g_cc s) (some a)) ft fl fs bs fw fr fu := by
  have hS : ∀ b ∈ [o, q 0 0], b = o ∨ ∃ i, i < 7 ∧ b = q 0 i := fun b hb => by
    rcases List.mem_cons.mp hb with z | z
    · exact Or.inl z
    · exact Or.inr ⟨0, by omega, List.mem_singleton.mp z⟩
  have hM := RK_ms h hS
  obtain ⟨l1, l2⟩ := RK_kl h hS K
  obtain ⟨hG, ho, ⟨hac, hcc⟩, ⟨hat, hfit, htp⟩, ⟨hal, hlit⟩, ⟨has, hst⟩, haw, ⟨har, hzt⟩, ⟨hau, hun, hut⟩, hcl, hinj⟩ := h
  obtain ⟨wtn, wtp, wcc, wln, wsn, wzn, wcol, wlit, wst, wzt⟩ := hW
  have q0 : ∀ i, nwq q (g_cc s) a ra ea sa 0 i = q 0 i := fun i => by simp [nwq]
  have qc : ∀ k c, c < g_cc s → nwq q (g_cc s) a ra ea sa k c = q k c := fun k c hc => by simp [nwq, show c ≠ g_cc s by omega]
  have n1 : ∀ {i e}, i < 7 → i ≠ 0 → jh w (q 0 i) e → (∀ fs, e ≠ eO cT fs) → q 0 i ∉ [o, q 0 0] := fun {i e} hi h1 he hx hm => by
    rcases List.mem_cons.mp hm with z | z
    · exact hx _ (jh_eq he (by rw [z]; exact ho))
    · exact h1 (hinj 0 i 0 0 (vld0 hi) (vld0 (by omega)) (List.mem_singleton.mp z)).2
  have w0 : ∀ i, i < 7 → q 0 i ∈ w.1 := fun i hi => by
    rcases (show i = 0 ∨ i = 1 ∨ i = 2 ∨ i = 3 ∨ i = 4 ∨ i = 5 ∨ i = 6 by omega) with rfl | rfl | rfl | rfl | rfl | rfl | rfl
    · exact hac.1
    · exact hat.1
    · exact hal.1
    · exact has.1
    · exact haw.1
    · exact har.1
    · exact hau.1
  have wq : ∀ k i, vld (g_cc s) k i → q k i ∈ w.1 := fun k i hv => by
    rcases hv with ⟨rfl, hi⟩ | ⟨h1, h2, h3⟩
    · exact w0 i hi
    · obtain ⟨fr1, kr1, km1, lA, hA, fe, ec1, fs1, a1, a2, a3, a4, a5, a6⟩ := hcl i h3
      rcases (show k = 1 ∨ k = 2 ∨ k = 3 ∨ k = 4 by omega) with rfl | rfl | rfl | rfl
      · exact a1.1
      · exact a2.1
      · exact a4.1
      · exact a5.1
  have hsf : ∀ j, j < g_sn s → stF (nwq q (g_cc s) a ra ea sa) (newcol s ty) j = stF q s j := fun j hj => by
    obtain ⟨⟨hk0, hk7⟩, hsc, hs2, hs3, hs4⟩ := wst j hj
    unfold stF
    show [Value.int (g_sk s j), va_rf (if g_sk s j < 5 then some (nwq q (g_cc s) a ra ea sa 1 (g_sc s j)) else none), Value.int (g_so s j), va_rf (if g_sk s j = 4 then some (nwq q (g_cc s) a ra ea sa 1 (g_sp s j).toNatClampNeg) else none), Value.ref (nwq q (g_cc s) a ra ea sa 0 2), Value.int (g_sp s j), Value.int (if g_sk s j = 2 then g_sm s j else if g_sk s j = 3 then 1 else 0)] = _
    rw [q0]
    by_cases h5 : g_sk s j < 5
    · rw [if_pos h5, if_pos h5, qc 1 _ (hsc h5)]
      by_cases h4 : g_sk s j = 4
      · obtain ⟨-, P, e1, e3, -⟩ := hs4 h4
        rw [if_pos h4, if_pos h4, e1, nI_clamp (by omega), qc 1 P e3]
      · rw [if_neg h4, if_neg h4]
    · have h4 : ¬ g_sk s j = 4 := fun z => h5 (by rw [z]; decide)
      rw [if_neg h5, if_neg h5, if_neg h4, if_neg h4]
  unfold RK
  rw [q0, q0, q0, q0, q0, q0, q0]
  refine ⟨hG, ho', ⟨h0, fun c hc => ?_⟩, ⟨K _ _ (n1 (by omega) (by omega) hat (fun _ z => by simp at z)) hat, hfit, htp⟩, ⟨K _ _ (n1 (by omega) (by omega) hal (fun _ z => by simp at z)) hal, l1⟩, ⟨K _ _ (n1 (by omega) (by omega) has (fun _ z => by simp at z)) has, fun j hj => ⟨(l2 j hj).1, by rw [hsf j hj]; exact (l2 j hj).2⟩⟩, K _ _ (n1 (by omega) (by omega) haw (fun _ z => by simp at z)) haw, ⟨K _ _ (n1 (by omega) (by omega) har (fun _ z => by simp at z)) har, hzt⟩, ⟨K _ _ (n1 (by omega) (by omega) hau (fun _ z => by simp at z)) hau, hun, hut⟩, fun c hc => ?_, nwq_inj hn hinj wq w0 f1 f2 f3 f4 d⟩
  · have hc : c < g_cc s + 1 := hc
    by_cases z : c = g_cc s
    · subst z
      rw [va_up_self]
      simp [nwq]
    · rw [va_up_ne _ _ z, qc 1 c (by omega)]
      exact hcc c (by omega)
  · have hc : c < g_cc s + 1 := hc
    by_cases z : c = g_cc s
    · subst z
      have e1 : nwq q (g_cc s) a ra ea sa 1 (g_cc s) = a := by simp [nwq]
      have e2 : nwq q (g_cc s) a ra ea sa 2 (g_cc s) = ra := by simp [nwq]
      have e3 : nwq q (g_cc s) a ra ea sa 3 (g_cc s) = ea := by simp [nwq]
      have e4 : nwq q (g_cc s) a ra ea sa 4 (g_cc s) = sa := by simp [nwq]
      have t1 : g_ty (newcol s ty) (g_cc s) = ty := va_up_self _ _ _
      have t2 : g_rc (newcol s ty) (g_cc s) = 0 := va_up_self _ _ _
      have t3 : g_kn (newcol s ty) (g_cc s) = false := va_up_self _ _ _
      unfold colC
      rw [e1, e2, e3, e4, t1, t2, t3]
      exact ⟨_, 0, 0, none, none, _, 0, _, ha, hra, fun j hj => absurd hj (Nat.not_lt_zero _), hea, hsa, fun z => by cases z⟩
    · have hc2 : c < g_cc s := by omega
      have nn : ∀ k e, 1 ≤ k → k ≤ 4 → jh w (q k c) e → (∀ fs, e ≠ eO cT fs) → q k c ∉ [o, q 0 0] := fun k e k1 k2 he hx hm => by
        rcases List.mem_cons.mp hm with z | z
        · exact hx _ (jh_eq he (by rw [z]; exact ho))
        · have := (hinj k c 0 0 (vldc k1 k2 hc2) (vld0 (by omega)) (List.mem_singleton.mp z)).1
          omega
      obtain ⟨fr1, kr1, km1, lA, hA, fe, ec1, fs1, a1, a2, a3, a4, a5, a6⟩ := id (hcl c hc2)
      have hk := colC_keep K hM (nn 1 _ (by omega) (by omega) a1 (fun _ z => by simp at z)) (nn 2 _ (by omega) (by omega) a2 (fun _ z => by simp at z)) (nn 3 _ (by omega) (by omega) a4 (fun _ z => by simp at z)) (nn 4 _ (by omega) (by omega) a5 (fun _ z => by simp at z)) (hcl c hc2)
      have hk2 : colC G w' q (newcol s ty) c := colC_eq ⟨(va_up_ne _ _ z).symm, (va_up_ne _ _ z).symm, rfl, (va_up_ne _ _ z).symm, rfl, rfl, rfl, rfl, rfl⟩ hk
      unfold colC at hk2 ⊢
      rw [qc 1 c hc2, qc 2 c hc2, qc 3 c hc2, qc 4 c hc2]
      exact hk2
