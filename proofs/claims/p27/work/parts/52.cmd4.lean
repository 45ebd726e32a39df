/-! where a command ends -/
theorem endF_p {tx : Nat → Nat} {ln a n p : Nat} (h : endF tx ln a = .inr (n, p)) : a + 2 ≤ p ∧ p ≤ ln ∧ 1 ≤ n ∧ n ≤ 99 := by
  unfold endF at h
  rcases hn : numF tx ln a with p0 | ⟨n0, p0⟩
  · rw [hn] at h
    cases h
  · rw [hn] at h
    dsimp only at h
    have l := (numF_p (tx := tx) (ln := ln) (a := a)).2 n0 p0 hn
    by_cases c : hit tx ln p0 59
    · rw [if_pos c] at h
      have := c.1
      cases h
      omega
    · rw [if_neg c] at h
      cases h
theorem cmdF_p {tx : Nat → Nat} {ln a f s n p : Nat} (h : cmdF tx ln a = .inr (f, s, n, p)) : a + 3 ≤ p ∧ p ≤ ln ∧ a < ln := by
  unfold cmdF at h
  repeat' split at h
  all_goals first
    | (cases h; done)
    | skip
  all_goals (
    rename_i g
    first
      | (have := endF_p g; cases h; omega)
      | (have := g.1; cases h; omega))
