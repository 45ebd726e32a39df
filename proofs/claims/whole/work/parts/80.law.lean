/-- the law's run -/
theorem law_runs (L : Nat) (xs : Nat → Int32) (hL : L ≤ 2560) : ∃ (N : Nat) (r : jR), j_run (L, xs) N 12 188 0 (j_ent 9 [.ref 1000000]) [] (fun _ => j_nil) (0, true, 0, 0) = some r ∧ r.1 = .inl (some (.int 1)) ∧ r.2.2.2.2.1 ≤ 601024 ∧ r.2.2.2.2.2 ≤ 7293034 := by
  sorry
