/-! the class's reading of one command -/
section
variable {X : jX} {d : Nat} {M : jM} {h : jH} {ln : Nat} {tx : Nat → Nat} {Y : Nat → Int32} {le fi se nu : Int32}
theorem t_cmd {a : Nat} (b1 : M 15 = .inr (3, [.int (zN ln), .ref 16, .int (zN a), .int le, .int fi, .int se, .int nu])) (b2 : M 16 = .inl (1, 100, .inl Y)) (b3 : ∀ j, j < ln → Y j = zN (tx j)) (hl : ln ≤ 100) (ht : ∀ j, j < ln → tx j < 128) (ha : a < 800) :
    (∀ p, cmdF tx ln a = .inl p → ∃ le' fi' se' nu', Rn X (d + 4) 54 0 [some (.ref 15)] [] M h = some (.inl (some (.int (zN 0))), va_up M 15 (.inr (3, [.int (zN ln), .ref 16, .int (zN p), .int le', .int fi', .int se', .int nu'])), h)) ∧ (∀ f s n p, cmdF tx ln a = .inr (f, s, n, p) → ∃ nu', Rn X (d + 4) 54 0 [some (.ref 15)] [] M h = some (.inl (some (.int (zN 1))), va_up M 15 (.inr (3, [.int (zN ln), .ref 16, .int (zN p), .int (zN (tx a)), .int (zN f), .int (zN s), .int nu'])), h) ∧ (tx a = 116 ∨ tx a = 99 ∨ nu' = zN n)) := by
  by_cases c1 : hit tx ln a 116 ∨ hit tx ln a 99
  · have hh : hit tx ln a (tx a) := by rcases c1 with q | q <;> exact ⟨q.1, rfl⟩
    have hL : tx a = 116 ∨ tx a = 99 := by rcases c1 with q | q <;> have := q.2 <;> omega
    obtain ⟨g1, g2⟩ := t_cmd_tc (X := X) (d := d) (h := h) b1 b2 b3 hl ht (by omega) hL hh
    exact ⟨g1, fun f s n p e => ⟨nu, g2 f s n p e, by omega⟩⟩
  · by_cases c2 : hit tx ln a 114
    · obtain ⟨g1, g2⟩ := t_cmd_r (X := X) (d := d) (h := h) b1 b2 b3 hl ht ha rfl c2
      exact ⟨g1, fun f s n p e => ⟨zN n, by rw [c2.2]; exact g2 f s n p e, Or.inr (Or.inr rfl)⟩⟩
    · by_cases c3 : hit tx ln a 108 ∨ hit tx ln a 117
      · have hh : hit tx ln a (tx a) := by rcases c3 with q | q <;> exact ⟨q.1, rfl⟩
        have hL : tx a = 108 ∨ tx a = 117 := by rcases c3 with q | q <;> have := q.2 <;> omega
        obtain ⟨g1, g2⟩ := t_cmd_lu (X := X) (d := d) (h := h) b1 b2 b3 hl ht ha hL hh
        exact ⟨g1, fun f s n p e => ⟨zN n, g2 f s n p e, Or.inr (Or.inr rfl)⟩⟩
      · by_cases c4 : hit tx ln a 109 ∨ hit tx ln a 115 ∨ hit tx ln a 118
        · have hh : hit tx ln a (tx a) := by rcases c4 with q | q | q <;> exact ⟨q.1, rfl⟩
          have hL : tx a = 109 ∨ tx a = 115 ∨ tx a = 118 := by rcases c4 with q | q | q <;> have := q.2 <;> omega
          obtain ⟨g1, g2⟩ := t_cmd_msv (X := X) (d := d) (h := h) b1 b2 b3 hl ht ha hL hh
          exact ⟨g1, fun f s n p e => ⟨zN n, g2 f s n p e, Or.inr (Or.inr rfl)⟩⟩
        · obtain ⟨g1, le', g2⟩ := t_cmd_no (X := X) (d := d) (h := h) b1 b2 b3 hl ht ha (fun L hL q => by
            rcases hL with rfl | rfl | rfl | rfl | rfl | rfl | rfl | rfl
            · exact c1 (Or.inr q)
            · exact c3 (Or.inl q)
            · exact c4 (Or.inl q)
            · exact c2 q
            · exact c4 (Or.inr (Or.inl q))
            · exact c1 (Or.inl q)
            · exact c3 (Or.inr q)
            · exact c4 (Or.inr (Or.inr q)))
          refine ⟨fun p e => ?_, fun f s n p e => ?_⟩
          · rw [g1] at e
            cases e
            exact ⟨le', fi, se, nu, g2⟩
          · rw [g1] at e
            cases e
end
