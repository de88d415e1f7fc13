def tak (kd m : Int32) : Int32 := if kd = 2 then m else if kd = 3 then 1 else 0
def cty (s : jS) (o : Option Nat) : Int32 := match o with
  | none => 0
  | some c => g_ty s c
def stFit (s : jS) (kd x op y m : Int32) : Bool := fitS kd (cix s x).isSome (cty s (cix s x)) op (if kd = 4 then (cix s y).isSome else false) (cty s (cix s y)) y (tak kd m) (g_ln s) (g_lit s)
def addStep (s : jS) (kd : Int32) (c : Nat) (op y m : Int32) : jS := s_sn (s_sm (s_sp (s_so (s_sc (s_sk s (va_up (g_sk s) (g_sn s) kd)) (va_up (g_sc s) (g_sn s) c)) (va_up (g_so s) (g_sn s) op)) (va_up (g_sp s) (g_sn s) y)) (va_up (g_sm s) (g_sn s) m)) (g_sn s + 1)
def sp_step (s : jS) (kd x op y m : Int32) : Int32 × jS := if (g_sn s < 64 ∧ ¬ kd < 0 ∧ kd ≤ 7) ∧ (kd < 5 → stFit s kd x op y m = true) then (nI (g_sn s), addStep s kd ((cix s x).getD 0) op y m) else (-1, s)
theorem fitS_1 {kd : Int32} {b1 : Bool} {t1 op : Int32} {b2 : Bool} {t2 p m : Int32} {ln : Nat} {lit : Nat → jv} (h : fitS kd b1 t1 op b2 t2 p m ln lit = true) : b1 = true := by
  unfold fitS at h
  simp only [Bool.and_eq_true] at h
  exact h.1
theorem fitS_4 {b1 : Bool} {t1 op : Int32} {b2 : Bool} {t2 p m : Int32} {ln : Nat} {lit : Nat → jv} (h : fitS 4 b1 t1 op b2 t2 p m ln lit = true) : b2 = true ∧ t2 = t1 := by
  unfold fitS at h
  rw [if_neg (by decide), if_neg (by decide), if_pos rfl] at h
  simp only [Bool.and_eq_true, decide_eq_true_eq] at h
  exact h.2.2
/-- the new step as the class keeps it -/
theorem stF_new {q : Nat → Nat → Nat} {s : jS} {kd x op y m : Int32} (hcc : g_cc s ≤ 16) (h : kd < 5 → stFit s kd x op y m = true) : stF q (addStep s kd ((cix s x).getD 0) op y m) (g_sn s) = [.int kd, va_rf (if kd < 5 then (cix s x).map (q 1) else none), .int op, va_rf (if kd = 4 then (cix s y).map (q 1) else none), .ref (q 0 2), .int y, .int (tak kd m)] := by
  have e1 : g_sk (addStep s kd ((cix s x).getD 0) op y m) (g_sn s) = kd := va_up_self _ _ _
  have e2 : g_sc (addStep s kd ((cix s x).getD 0) op y m) (g_sn s) = (cix s x).getD 0 := va_up_self _ _ _
  have e3 : g_so (addStep s kd ((cix s x).getD 0) op y m) (g_sn s) = op := va_up_self _ _ _
  have e4 : g_sp (addStep s kd ((cix s x).getD 0) op y m) (g_sn s) = y := va_up_self _ _ _
  have e5 : g_sm (addStep s kd ((cix s x).getD 0) op y m) (g_sn s) = m := va_up_self _ _ _
  unfold stF tak
  rw [e1, e2, e3, e4, e5]
  by_cases h5 : kd < 5
  · rw [if_pos h5, if_pos h5]
    have hf := h h5
    have hb := fitS_1 hf
    obtain ⟨c, hc⟩ := Option.isSome_iff_exists.mp hb
    rw [hc]
    by_cases h4 : kd = 4
    · subst h4
      rw [if_pos rfl, if_pos rfl]
      have hb2 := (fitS_4 hf).1
      rw [if_pos rfl] at hb2
      obtain ⟨d, hd⟩ := Option.isSome_iff_exists.mp hb2
      obtain ⟨h1, rfl⟩ := cix_some hcc hd
      rw [hd, nI_clamp (by omega)]
      rfl
    · rw [if_neg h4, if_neg h4]
      rfl
  · have h4 : ¬ kd = 4 := fun z => h5 (by rw [z]; decide)
    rw [if_neg h5, if_neg h5, if_neg h4, if_neg h4]
theorem stF_old {q : Nat → Nat → Nat} {s : jS} {kd : Int32} {c : Nat} {op y m : Int32} {j : Nat} (hj : j < g_sn s) : stF q (addStep s kd c op y m) j = stF q s j := by
  have hn : j ≠ g_sn s := by omega
  have e1 : g_sk (addStep s kd c op y m) j = g_sk s j := va_up_ne _ _ hn
  have e2 : g_sc (addStep s kd c op y m) j = g_sc s j := va_up_ne _ _ hn
  have e3 : g_so (addStep s kd c op y m) j = g_so s j := va_up_ne _ _ hn
  have e4 : g_sp (addStep s kd c op y m) j = g_sp s j := va_up_ne _ _ hn
  have e5 : g_sm (addStep s kd c op y m) j = g_sm s j := va_up_ne _ _ hn
  unfold stF
  rw [e1, e2, e3, e4, e5]
