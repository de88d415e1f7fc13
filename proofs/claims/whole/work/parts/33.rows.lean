/-! Rows that come to a column. -/
theorem RK_mono {G : jG} {w w' : jw} {o : Nat} {s : jS} {q : Nat → Nat → Nat} {un : Nat} {fc : Nat → Option Nat} {ft : Nat → Int32} {fl fs : Nat → Option Nat} {bs : Nat → Nat} {fw fr fu : Nat → Int32} (h : RK G w o s q un fc ft fl fs bs fw fr fu) (K : KA w w' []) : RK G w' o s q un fc ft fl fs bs fw fr fu := by
  obtain ⟨hG, ho, ⟨hac, hcc⟩, ⟨hat, hfit, htp⟩, ⟨hal, hlit⟩, ⟨has, hst⟩, haw, ⟨har, hzt⟩, ⟨hau, hun, hut⟩, hcl, hinj⟩ := h
  have k : ∀ {a e}, jh w a e → jh w' a e := fun h => K _ _ (by simp) h
  refine ⟨hG, k ho, ⟨k hac, hcc⟩, ⟨k hat, hfit, htp⟩, ⟨k hal, fun j hj => ?_⟩, ⟨k has, fun j hj => ⟨(hst j hj).1, k (hst j hj).2⟩⟩, k haw, ⟨k har, hzt⟩, ⟨k hau, hun, hut⟩, fun c hc => colC_keep K MS.nil (by simp) (by simp) (by simp) (by simp) (hcl c hc), hinj⟩
  obtain ⟨b, b1, b2⟩ := hlit j hj
  exact ⟨b, b1, isV_keep K MU.nil b2⟩
def rmOK (s : jS) (c : Nat) (n : Int32) : Bool := decide (1 ≤ n) && decide (n ≤ 1000 - nI (g_rc s c))
theorem rm_ok {s : jS} {c : Nat} {n : Int32} (hc : g_rc s c ≤ 1000) (h : rmOK s c n = true) : ∃ N, n = nI N ∧ 1 ≤ N ∧ g_rc s c + N ≤ 1000 := by
  unfold rmOK at h
  simp only [Bool.and_eq_true, decide_eq_true_eq] at h
  obtain ⟨h1, h2⟩ := h
  rw [show (1000 : Int32) - nI (g_rc s c) = nI (1000 - g_rc s c) from pk_sub (a := 1000) hc] at h2
  rw [Int32.le_iff_toInt_le, i32_1] at h1
  have h0 : ¬ n < 0 := by
    rw [Int32.lt_iff_toInt_lt, Int32.toInt_zero]
    omega
  obtain ⟨N, hN, rfl⟩ := nI_of h0
  rw [nI_toInt hN] at h1
  have h3 := (nI_leI hN (by omega)).mp h2
  exact ⟨N, rfl, by omega, by omega⟩
def addRows (s : jS) (c n : Nat) (v : Option jv) : jS := s_rf (s_rc s (va_up (g_rc s) c (g_rc s c + n))) (va_up (g_rf s) c (fun j => if g_rc s c ≤ j ∧ j < g_rc s c + n then v else g_rf s c j))
theorem tsum_on {f g : Nat → Option jv} : ∀ {n : Nat}, (∀ j, j < n → f j = g j) → tsum f n = tsum g n
  | 0, _ => rfl
  | n + 1, h => by
    simp only [tsum]
    rw [tsum_on (fun j hj => h j (by omega)), h n (by omega)]
def vlen (v : Option jv) : Nat := match v with
  | none => 0
  | some x => x.2.2.length
theorem tsum_fill {f : Nat → Option jv} {rc : Nat} {v : Option jv} : ∀ {n : Nat}, tsum (fun j => if rc ≤ j ∧ j < rc + n then v else f j) (rc + n) = tsum f rc + n * vlen v
  | 0 => by
    rw [Nat.zero_mul, Nat.add_zero]
    exact tsum_on (fun j hj => by rw [if_neg (by omega)])
  | n + 1 => by
    show tsum _ ((rc + n) + 1) = _
    simp only [tsum]
    rw [tsum_on (g := fun j => if rc ≤ j ∧ j < rc + n then v else f j) (n := rc + n) (fun j hj => by
      by_cases q : rc ≤ j
      · rw [if_pos (by omega), if_pos (by omega)]
      · rw [if_neg (by omega), if_neg (by omega)]), tsum_fill, if_pos (by omega)]
    cases v with
    | none => simp [vlen]
    | some x => simp only [vlen]; rw [Nat.succ_mul]; omega
theorem RK_rows {G : jG} {w w' : jw} {o : Nat} {s : jS} {q : Nat → Nat → Nat} {un : Nat} {fc : Nat → Option Nat} {ft : Nat → Int32} {fl fs : Nat → Option Nat} {bs : Nat → Nat} {fw fr fu : Nat → Int32} {c N tx : Nat} {r1 : Option Nat} {v : Option jv}
    {fr1 : Nat → Option Nat} {kr1 km1 : Int32} {lA hA : Option Nat} {fe : Nat → Option Nat} {ec1 : Int32} {fs1 f' : Nat → Option Nat}
    (h : RK G w o s q un fc ft fl fs bs fw fr fu) (hc : c < g_cc s)
    (k1 : jh w (q 1 c) (eO cC (kFs (g_ty s c) (q 2 c) (nI (g_rc s c)) (nI (tsum (g_rf s c) (g_rc s c))) (bI (g_kn s c)) kr1 km1 lA hA (q 3 c) ec1 (q 4 c)))) (k2 : jh w (q 2 c) (eR G 5 1000 fr1)) (k3 : ∀ j, j < g_rc s c → isO G w (fr1 j) (g_rf s c j)) (k4 : jh w (q 3 c) (eR G 5 100 fe)) (k5 : jh w (q 4 c) (eR G 5 100 fs1))
    (k6 : g_kn s c = true → kr1 = g_kr s c ∧ km1 = g_km s c ∧ ec1 = nI (g_ec s c) ∧ (∀ j, j < g_ec s c → ∃ b, fe j = some b ∧ isV G w b (g_ef s c j)) ∧ isO G w lA ((g_mo s c).map Prod.fst) ∧ isO G w hA ((g_mo s c).map Prod.snd))
    (hv : isO G w r1 v) (htx : tx = N * vlen v)
    (g1 : jh w' (q 1 c) (eO cC (kFs (g_ty s c) (q 2 c) (nI (g_rc s c + N)) (nI (tsum (g_rf s c) (g_rc s c) + tx)) (bI (g_kn s c)) kr1 km1 lA hA (q 3 c) ec1 (q 4 c)))) (g2 : jh w' (q 2 c) (eR G 5 1000 f')) (g3 : ∀ j, f' j = if g_rc s c ≤ j ∧ j < g_rc s c + N then r1 else fr1 j) (K : KA w w' [q 1 c, q 2 c]) : RK G w' o (addRows s c N v) q un fc ft fl fs bs fw fr fu := by
  have hinj := h.2.2.2.2.2.2.2.2.2.2
  have hM : MS G w [q 1 c, q 2 c] := MS.cons k1 mE_C (fun _ => mS_C) (MS.cons k2 mE_R (fun _ => mS_R) MS.nil)
  have hne : ∀ k, k = 3 ∨ k = 4 → q k c ∉ [q 1 c, q 2 c] := fun k hk z => by
    rcases List.mem_cons.mp z with z | z
    · have := (hinj k c 1 c (vldc (by omega) (by omega) hc) (vldc (by omega) (by omega) hc) z).1
      omega
    · have := (hinj k c 2 c (vldc (by omega) (by omega) hc) (vldc (by omega) (by omega) hc) (List.mem_singleton.mp z)).1
      omega
  refine RK_col h hc ⟨rfl, rfl, rfl, rfl, rfl, rfl, rfl, rfl, rfl, rfl, rfl, rfl, rfl⟩ (fun c2 hn => ⟨rfl, (va_up_ne _ _ hn).symm, (va_up_ne _ _ hn).symm, rfl, rfl, rfl, rfl, rfl, rfl⟩) K hM (fun a ha => ?_) ?_
  · rcases List.mem_cons.mp ha with z | z
    · exact ⟨1, by omega, by omega, z⟩
    · exact ⟨2, by omega, by omega, List.mem_singleton.mp z⟩
  · have e1 : g_rc (addRows s c N v) c = g_rc s c + N := va_up_self _ _ _
    have e2 : g_rf (addRows s c N v) c = fun j => if g_rc s c ≤ j ∧ j < g_rc s c + N then v else g_rf s c j := va_up_self _ _ _
    refine ⟨f', kr1, km1, lA, hA, fe, ec1, fs1, ?_, g2, fun j hj => ?_, K _ _ (hne 3 (by omega)) k4, K _ _ (hne 4 (by omega)) k5, fun hk => ?_⟩
    · rw [e1, e2, tsum_fill, ← htx]
      exact g1
    · rw [e1] at hj
      rw [e2, g3 j]
      by_cases z : g_rc s c ≤ j ∧ j < g_rc s c + N
      · simp only [if_pos z]
        exact isO_keep K hM.mu hv
      · simp only [if_neg z]
        exact isO_keep K hM.mu (k3 j (by omega))
    · obtain ⟨b1, b2, b3, b4, b5, b6⟩ := k6 hk
      refine ⟨b1, b2, b3, fun j hj => ?_, isO_keep K hM.mu b5, isO_keep K hM.mu b6⟩
      obtain ⟨b, c1, c2⟩ := b4 j hj
      exact ⟨b, c1, isV_keep K hM.mu c2⟩
def sp_miss (s : jS) (x n : Int32) : Int32 × jS := match cix s x with
  | none => (0, s)
  | some c => if rmOK s c n = true then (1, addRows s c n.toNatClampNeg none) else (0, s)
def sp_add (s : jS) (x : Int32) (v : Int64) (n : Int32) : Int32 × jS := match cix s x with
  | none => (0, s)
  | some c => if nO (g_ty s c) v = true ∧ rmOK s c n = true then (1, addRows s c n.toNatClampNeg (some (g_ty s c, v, []))) else (0, s)
def tptx (s : jS) (n : Nat) : List Nat := (List.range n).map (g_tp s)
def txOK (s : jS) (c : Nat) (n : Int32) : Bool := decide (g_ty s c = 2) && decide (n ≤ 255) && rmOK s c 1 && decide (n ≤ 8000 - nI (tsum (g_rf s c) (g_rc s c)))
def onT (s : jS) (n : Int32) : Bool := decide (0 ≤ n) && decide (n ≤ nI (g_tn s))
def sp_addText (s : jS) (x n : Int32) : Int32 × jS := if onT s n = true then (match cix s x with
  | none => (0, s_tn s 0)
  | some c => if txOK s c n = true then (1, addRows (s_tn s 0) c 1 (some (2, 0, tptx s n.toNatClampNeg))) else (0, s_tn s 0)) else (0, s)
