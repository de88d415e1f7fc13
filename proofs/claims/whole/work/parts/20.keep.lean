/-! What stays when some places are written. -/
def KA (w w' : jw) (S : List Nat) : Prop := ∀ b e, b ∉ S → jh w b e → jh w' b e
theorem KA.rf {w : jw} {S : List Nat} : KA w w S := fun _ _ _ h => h
theorem KA.put {w w1 w2 : jw} {S : List Nat} {a : Nat} (h : KA w w1 S) (f : ∀ b e, b ≠ a → jh w1 b e → jh w2 b e) (ha : a ∈ S) : KA w w2 S := fun b e hb h1 => f b e (fun q => hb (by rw [q]; exact ha)) (h b e hb h1)
theorem KA.new {w w1 w2 : jw} {S : List Nat} (h : KA w w1 S) (f : ∀ b e, jh w1 b e → jh w2 b e) : KA w w2 S := fun b e hb h1 => f b e (h b e hb h1)
theorem KA.tr {w w1 w2 : jw} {S T : List Nat} (h : KA w w1 S) (h2 : KA w1 w2 T) (hT : ∀ a ∈ T, a ∈ S) : KA w w2 S := fun b e hb h1 => h2 b e (fun q => hb (hT b q)) (h b e hb h1)
theorem KA.mono {w w1 : jw} {S T : List Nat} (h : KA w w1 S) (hT : ∀ a ∈ S, a ∈ T) : KA w w1 T := fun b e hb h1 => h b e (fun q => hb (hT b q)) h1
/-- neither a value nor a text -/
def mE (G : jG) (e : va_E) : Prop := (∀ fs, e ≠ eO cV fs) ∧ ∀ n f, n ≤ 255 → e ≠ eB G n f
def MU (G : jG) (w : jw) (S : List Nat) : Prop := ∀ a ∈ S, ∃ e, jh w a e ∧ mE G e
theorem mE_C {G : jG} {fs : List Value} : mE G (eO cC fs) := ⟨fun _ h => by simp at h; exact absurd h.1 (by decide), fun _ _ _ h => by simp at h⟩
theorem mE_T {G : jG} {fs : List Value} : mE G (eO cT fs) := ⟨fun _ h => by simp at h, fun _ _ _ h => by simp at h⟩
theorem mE_R {G : jG} {k n : Nat} {f : Nat → Option Nat} : mE G (eR G k n f) := ⟨fun _ h => by simp at h, fun _ _ _ h => by simp at h⟩
theorem mE_B {G : jG} {f : Nat → Int32} : mE G (eB G 1000 f) := ⟨fun _ h => by simp at h, fun n _ hn h => by simp at h; omega⟩
theorem mE_I {G : jG} {N : Nat} {f : Nat → Int32} (hG : G.2.1 0 ≠ G.2.1 1) : mE G (eI G N f) := ⟨fun _ h => by simp at h, fun n _ hn h => by simp at h; exact hG h.1⟩
theorem MU.nil {G : jG} {w : jw} : MU G w [] := fun _ h => by simp at h
theorem MU.cons {G : jG} {w : jw} {a : Nat} {S : List Nat} {e : va_E} (h : jh w a e) (he : mE G e) (hS : MU G w S) : MU G w (a :: S) := fun b hb => by
  rcases List.mem_cons.mp hb with rfl | hb
  · exact ⟨e, h, he⟩
  · exact hS b hb
theorem isT_keep {G : jG} {w w' : jw} {S : List Nat} {t : Nat} {tx : List Nat} (K : KA w w' S) (hM : MU G w S) (h : isT G w t tx) : isT G w' t tx := by
  obtain ⟨hl, h⟩ := h
  refine ⟨hl, ?_⟩
  rcases h with h | ⟨f, h1, h2⟩
  · exact Or.inl h
  · refine Or.inr ⟨f, K t _ (fun hm => ?_) h1, h2⟩
    obtain ⟨e, he, hx⟩ := hM t hm
    exact hx.2 _ _ hl (jh_eq he h1)
theorem isV_keep {G : jG} {w w' : jw} {S : List Nat} {b : Nat} {x : jv} (K : KA w w' S) (hM : MU G w S) (h : isV G w b x) : isV G w' b x := by
  obtain ⟨t, h1, h2⟩ := h
  refine ⟨t, K b _ (fun hm => ?_) h1, isT_keep K hM h2⟩
  obtain ⟨e, he, hx⟩ := hM b hm
  exact hx.1 _ (jh_eq he h1)
theorem isO_keep {G : jG} {w w' : jw} {S : List Nat} {r : Option Nat} {x : Option jv} (K : KA w w' S) (hM : MU G w S) (h : isO G w r x) : isO G w' r x := by
  cases r with
  | none => exact h
  | some a =>
    obtain ⟨v, h1, h2⟩ := h
    exact ⟨v, h1, isV_keep K hM h2⟩
/-- least and greatest of the first n -/
def mnR (f : Nat → Option jv) : Nat → Option jv
  | 0 => none
  | n + 1 => match f n, mnR f n with
    | none, m => m
    | some x, none => some x
    | some x, some y => if vc x y < 0 then some x else some y
def mxR (f : Nat → Option jv) : Nat → Option jv
  | 0 => none
  | n + 1 => match f n, mxR f n with
    | none, m => m
    | some x, none => some x
    | some x, some y => if 0 < vc x y then some x else some y
theorem mnR_n {f : Nat → Option jv} {n : Nat} (h : f n = none) : mnR f (n + 1) = mnR f n := by simp [mnR, h]
theorem mnR_a {f : Nat → Option jv} {n : Nat} {x : jv} (h : f n = some x) (h2 : mnR f n = none) : mnR f (n + 1) = some x := by simp [mnR, h, h2]
theorem mnR_b {f : Nat → Option jv} {n : Nat} {x y : jv} (h : f n = some x) (h2 : mnR f n = some y) (h3 : vc x y < 0) : mnR f (n + 1) = some x := by simp [mnR, h, h2, h3]
theorem mnR_c {f : Nat → Option jv} {n : Nat} {x y : jv} (h : f n = some x) (h2 : mnR f n = some y) (h3 : ¬ vc x y < 0) : mnR f (n + 1) = some y := by simp only [mnR, h, h2, if_neg h3]
theorem mxR_n {f : Nat → Option jv} {n : Nat} (h : f n = none) : mxR f (n + 1) = mxR f n := by simp [mxR, h]
theorem mxR_a {f : Nat → Option jv} {n : Nat} {x : jv} (h : f n = some x) (h2 : mxR f n = none) : mxR f (n + 1) = some x := by simp [mxR, h, h2]
theorem mxR_b {f : Nat → Option jv} {n : Nat} {x y : jv} (h : f n = some x) (h2 : mxR f n = some y) (h3 : 0 < vc x y) : mxR f (n + 1) = some x := by simp [mxR, h, h2, h3]
theorem mxR_c {f : Nat → Option jv} {n : Nat} {x y : jv} (h : f n = some x) (h2 : mxR f n = some y) (h3 : ¬ 0 < vc x y) : mxR f (n + 1) = some y := by simp only [mxR, h, h2, if_neg h3]
theorem isO_some {G : jG} {w : jw} {a : Nat} {x : Option jv} (h : isO G w (some a) x) : ∃ v, x = some v ∧ isV G w a v := h
theorem isO_none {G : jG} {w : jw} {x : Option jv} (h : isO G w none x) : x = none := h
