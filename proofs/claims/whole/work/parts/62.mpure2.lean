/-! Small rows for the reference's public methods. -/
theorem RepM.of {G : jG} {w : jw} {o : Nat} {s : jS} {q : Nat → Nat} {m : jM} (h : MH G w o q m) (h2 : relM s m) : RepM G w o s := ⟨q, m, h, h2⟩
theorem relM_cd {s : jS} {m : jM} {x : Int32} (hR : relM s m) : relM s (mp_cd m x) :=
  relM_z hR ⟨rfl, rfl, rfl, rfl, rfl, rfl, rfl, rfl, rfl, rfl, rfl⟩ (fun _ => ⟨rfl, rfl, rfl, rfl, rfl, rfl, rfl, rfl, rfl⟩) ⟨rfl, rfl, rfl, rfl, rfl, rfl, rfl, rfl, rfl, rfl, rfl⟩ ⟨rfl, rfl, rfl, rfl, rfl, rfl, rfl, rfl, rfl, rfl, rfl, rfl, rfl⟩ hR.2.1.2.2.2 hR.2.2.2.2.2.2.2
theorem relM_pl {s : jS} {m : jM} {x : Nat → Int32} (hR : relM s m) : relM s (mp_pl m x) :=
  relM_z hR ⟨rfl, rfl, rfl, rfl, rfl, rfl, rfl, rfl, rfl, rfl, rfl⟩ (fun _ => ⟨rfl, rfl, rfl, rfl, rfl, rfl, rfl, rfl, rfl⟩) ⟨rfl, rfl, rfl, rfl, rfl, rfl, rfl, rfl, rfl, rfl, rfl⟩ ⟨rfl, rfl, rfl, rfl, rfl, rfl, rfl, rfl, rfl, rfl, rfl, rfl, rfl⟩ hR.2.1.2.2.2 hR.2.2.2.2.2.2.2
theorem updL_self {f : Nat → Int64} {k : Nat} {x : Int64} : vp_updL f k x k = x := if_pos rfl
theorem updL_ne {f : Nat → Int64} {k j : Nat} {x : Int64} (h : j ≠ k) : vp_updL f k x j = f j := if_neg h
theorem nO_ne2 {ty : Int32} {v : Int64} (h : nO ty v = true) : ¬ ty = 2 := by
  rintro rfl
  simp [nO] at h
theorem relM_numlit {s : jS} {m : jM} {ty : Int32} {v : Int64} (hR : relM s m) (hW : WF s) (hl : g_ln s < 64) (h : nO ty v = true) : relM (s_ln (s_lit s (va_up (g_lit s) (g_ln s) (ty, v, []))) (g_ln s + 1)) (mp_ln (mp_num (mp_lt m (upd (mg_lt m) (g_ln s) ty)) (vp_updL (mg_num m) (17632 + g_ln s) v)) (nI (g_ln s + 1))) :=
  relM_lit (x := (ty, v, [])) (a := 0) (e := 0) hR hW hl ⟨rfl, rfl, rfl, rfl, rfl, rfl, rfl, rfl, rfl, rfl, rfl, rfl, rfl⟩ ⟨fun i hi => ⟨updL_ne hi, rfl, rfl⟩, fun _ _ => rfl⟩ (Or.inl rfl) (fun _ => ⟨rfl, rfl, rfl, rfl, rfl, rfl, rfl, rfl⟩) rfl ⟨fun _ => updL_self, fun z => absurd z (nO_ne2 h)⟩
theorem fdh {n k : Nat} (h : ¬ nI n ≤ nI k) (hn : n < 2 ^ 31) (hk : k < 2 ^ 31) : k < n := by
  rw [nI_leI hn hk] at h; omega
theorem fdl {n k : Nat} (h : nI n ≤ nI k) (hn : n < 2 ^ 31) (hk : k < 2 ^ 31) : n ≤ k := (nI_leI hn hk).mp h
theorem relM_zI0 {s : jS} {m : jM} (hR : relM s m) : relM (s_zt s (zI s 0)) m :=
  relM_z hR ⟨rfl, rfl, rfl, rfl, rfl, rfl, rfl, rfl, rfl, rfl, rfl⟩ (fun _ => ⟨rfl, rfl, rfl, rfl, rfl, rfl, rfl, rfl, rfl⟩) ⟨rfl, rfl, rfl, rfl, rfl, rfl, rfl, rfl, rfl, rfl, rfl⟩ ⟨rfl, rfl, rfl, rfl, rfl, rfl, rfl, rfl, rfl, rfl, rfl, rfl, rfl⟩ hR.2.1.2.2.2 (fun r hr => by
    have h := hR.2.2.2.2.2.2.2 r hr
    show _ = trv (zI s 0 r)
    unfold zI
    rw [if_neg (Nat.not_lt_zero _)]
    exact h)
theorem trn {tr z : Nat → Int32} {r : Nat} {v : Int32} (h : ∀ j, j < r → tr j = trv (z j)) (hv : v = trv (z r)) : ∀ j, j < r + 1 → upd tr r v j = trv (z j) := by
  intro j hj
  by_cases q : j = r
  · subst q; rw [upd_self, hv]
  · rw [upd_ne q]; exact h j (by omega)
/-- the check of the steps' rows, step by step -/
def shI (s : jS) (n i : Nat) : Bool := sHR (fun j => if g_sk s j < 5 then some 0 else none) (fun j => g_rc s (g_sc s j)) (fun j => if g_sk s j = 4 then some 0 else none) (fun j => g_rc s (oP s j)) n i
theorem shI_end {s : jS} {n : Nat} : shI s n (g_sn s) = shR s n := rfl
theorem shI_f1 {s : jS} {n i : Nat} (hi : i < g_sn s) (h5 : g_sk s i < 5) (h : g_rc s (g_sc s i) < n) : shR s n = false := sHR_f (i := i) (Or.inl ⟨by rw [if_pos h5]; simp, by omega⟩) hi
theorem shI_f2 {s : jS} {n i P : Nat} (hi : i < g_sn s) (h4 : g_sk s i = 4) (hP : oP s i = P) (h : g_rc s P < n) : shR s n = false := sHR_f (i := i) (Or.inr ⟨by rw [if_pos h4]; simp, by rw [hP]; omega⟩) hi
theorem shI_n {s : jS} {n i : Nat} (h : shI s n i = true) (h1 : g_sk s i < 5 → n ≤ g_rc s (g_sc s i)) (h2 : g_sk s i = 4 → n ≤ g_rc s (oP s i)) : shI s n (i + 1) = true := by
  unfold shI at h ⊢
  simp only [sHR, h, Bool.true_and, Bool.and_eq_true, Bool.or_eq_true, decide_eq_true_eq]
  constructor
  · by_cases q : g_sk s i < 5
    · exact Or.inr (h1 q)
    · exact Or.inl (if_neg q)
  · by_cases q : g_sk s i = 4
    · exact Or.inr (h2 q)
    · exact Or.inl (if_neg q)
theorem fde {n k : Nat} (h : nI n ≤ nI k) (hn : n < 2 ^ 31) (hk : k < 2 ^ 31) (h2 : k ≤ n) : k = n := by
  have := (nI_leI hn hk).mp h
  omega
theorem fne {a b : Nat} (h : ¬ nI a = nI b) (h2 : a ≤ b) : a < b := by
  rcases Nat.lt_or_ge a b with z | z
  · exact z
  · exact absurd (by rw [show a = b by omega]) h
theorem bI_t {b : Bool} (h : ¬ bI b = 0) : b = true := by
  rw [bI_0, Bool.not_eq_false] at h; exact h
theorem stFit_x {s : jS} {kd x op y a : Int32} (hc : g_cc s ≤ 16) (h : stFit s kd x op y a = true) : x = nI ((cix s x).getD 0) := by
  have z2 := fitS_1 h
  obtain ⟨c, hcx⟩ := Option.isSome_iff_exists.mp z2
  rw [hcx]
  exact (cix_some hc hcx).2
theorem upd_nx {f g : Nat → Int32} {p k : Nat} (h : ∀ j, j < k → f (p + j) = g j) : ∀ j, j < k + 1 → upd f (p + k) (g k) (p + j) = g j := by
  intro j hj
  by_cases z : j = k
  · subst z; exact upd_self
  · exact (upd_ne (by omega)).trans (h j (by omega))
theorem fdg {n k : Nat} (h : ¬ nI n < nI k) (hn : n < 2 ^ 31) (hk : k < 2 ^ 31) : k ≤ n := by
  rw [nI_ltI hn hk] at h; omega
