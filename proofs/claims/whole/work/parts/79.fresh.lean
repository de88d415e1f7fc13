/-! A fresh object of the class holds the first state. -/
theorem RepC_Z {G : jG} {w : jw} {a q0 q1 q2 q3 q4 q5 q6 : Nat} (hG : G.2.1 0 ≠ G.2.1 1) (hnd : [q0, q1, q2, q3, q4, q5, q6].Nodup) (ho : jh w a (eO cT (tFs q0 0 q1 0 q2 0 q3 0 q4 q5 0 q6 0))) (h0 : jh w q0 (eR G 4 16 (fun _ => none))) (h1 : jh w q1 (eB G 1000 (fun _ => 0))) (h2 : jh w q2 (eR G 5 64 (fun _ => none))) (h3 : jh w q3 (eR G 6 64 (fun _ => none))) (h4 : jh w q4 (eI G 64 (fun _ => 0))) (h5 : jh w q5 (eI G 1000 (fun _ => 0))) (h6 : jh w q6 (eI G 1000 (fun _ => 0))) : RepC G w a sZ := by
  refine ⟨fun k i => if k = 0 then [q0, q1, q2, q3, q4, q5, q6].getD i 0 else 0, 0, fun _ => none, fun _ => 0, fun _ => none, fun _ => none, fun _ => 0, fun _ => 0, fun _ => 0, fun _ => 0, hG, ho, ⟨h0, fun c hc => absurd hc (Nat.not_lt_zero _)⟩, ⟨h1, fun j => rfl, fun j hj => absurd hj (Nat.not_lt_zero _)⟩, ⟨h2, fun j hj => absurd hj (Nat.not_lt_zero _)⟩, ⟨h3, fun j hj => absurd hj (Nat.not_lt_zero _)⟩, h4, ⟨h5, fun j hj => absurd hj (Nat.not_lt_zero _)⟩, ⟨h6, rfl, fun k hk => absurd hk (Nat.not_lt_zero _)⟩, fun c hc => absurd hc (Nat.not_lt_zero _), ?_⟩
  intro k i k' i' hv hv' e
  rcases hv with ⟨rfl, hi⟩ | ⟨-, -, z⟩
  · rcases hv' with ⟨rfl, hi'⟩ | ⟨-, -, z⟩
    · exact ⟨rfl, nd_inj hnd i i' hi hi' e⟩
    · exact absurd z (Nat.not_lt_zero _)
  · exact absurd z (Nat.not_lt_zero _)
