/-! how simp's side goals are met -/
theorem cs_v (v : Value) : v.category ≤ 2 := by
  unfold Value.category
  split <;> omega
theorem cs_0 : Nat.ble (j_cs []) 8 = true := rfl
theorem cs_1 (a : Value) : Nat.ble (j_cs [a]) 8 = true := by
  have := cs_v a
  exact Nat.ble_eq_true_of_le (by simp only [j_cs, List.map_cons, List.map_nil, List.sum_cons, List.sum_nil]; omega)
theorem cs_2 (a b : Value) : Nat.ble (j_cs [a, b]) 8 = true := by
  have := cs_v a
  have := cs_v b
  exact Nat.ble_eq_true_of_le (by simp only [j_cs, List.map_cons, List.map_nil, List.sum_cons, List.sum_nil]; omega)
theorem cs_3 (a b c : Value) : Nat.ble (j_cs [a, b, c]) 8 = true := by
  have := cs_v a
  have := cs_v b
  have := cs_v c
  exact Nat.ble_eq_true_of_le (by simp only [j_cs, List.map_cons, List.map_nil, List.sum_cons, List.sum_nil]; omega)
theorem cs_4 (a b c e : Value) : Nat.ble (j_cs [a, b, c, e]) 8 = true := by
  have := cs_v a
  have := cs_v b
  have := cs_v c
  have := cs_v e
  exact Nat.ble_eq_true_of_le (by simp only [j_cs, List.map_cons, List.map_nil, List.sum_cons, List.sum_nil]; omega)
/-! the journal in numbers: a row of 206, laid out as the reference lays it -/
abbrev rw_ : Type := Nat → Nat
def od (v : rw_) (p w : Nat) : Nat := v (4 + 5 * (p % 32) + w)
def doR (v : rw_) (t k a b n : Nat) : rw_ :=
  if k = 0 then va_up v (t + a) (min (v (t + a) + n) 999)
  else if k = 1 then va_up v (t + a) (v (t + a) - n)
  else if k = 2 then va_up (va_up v (t + a) (v (t + a) - min n (min (v (t + a)) (999 - v (t + b))))) (t + b) (v (t + b) + min n (min (v (t + a)) (999 - v (t + b))))
  else if k = 3 then va_up (va_up v (t + a) (v (t + b))) (t + b) (v (t + a))
  else va_up (va_up v (t + b) ((v (t + a) + v (t + b)) / 2)) (t + a) (v (t + a) + v (t + b) - (v (t + a) + v (t + b)) / 2)
def doO (v : rw_) (p : Nat) (f : rw_) (t : Nat) : rw_ := doR f t (od v p 0) (od v p 1) (od v p 2) (od v p 3)
/-- k orders from p on -/
def thk (v : rw_) : Nat → Nat → rw_ → rw_
  | 0, _, f => f
  | k + 1, p, f => thk v k (p + 1) (doO v p f 0)
/-- the first of k orders from p on that can't be read, or what lies behind them -/
def stp (v : rw_) : Nat → Nat → Nat
  | 0, p => p
  | k + 1, p => if od v p 4 = 3 then p else stp v k (p + 1)
def stopF (v : rw_) (p : Nat) : Nat := stp v (v 2 - p) p
/-- k orders from p on can all be read -/
def alN (v : rw_) : Nat → Nat → Nat
  | 0, _ => 1
  | k + 1, p => if od v p 4 = 3 then 0 else alN v k (p + 1)
theorem alN_lt (v : rw_) : ∀ k p, alN v k p < 2
  | 0, _ => by unfold alN; omega
  | k + 1, p => by
    unfold alN
    split
    · omega
    · exact alN_lt v k (p + 1)
/-- a kept order -/
def okO (v : rw_) (p : Nat) : Prop := od v p 0 ≤ 4 ∧ od v p 1 < 8 ∧ od v p 2 < 8 ∧ 1 ≤ od v p 3 ∧ od v p 3 ≤ 99 ∧ (2 ≤ od v p 0 → od v p 1 ≠ od v p 2) ∧ od v p 4 < 4
theorem doR_le {f : rw_} {t k a b n : Nat} (hf : ∀ j, j < 8 → f (t + j) ≤ 999) (ha : a < 8) (hb : b < 8) : ∀ j, j < 8 → doR f t k a b n (t + j) ≤ 999 := by
  intro j hj
  have h1 := hf a ha
  have h2 := hf b hb
  have h3 := hf j hj
  unfold doR
  split
  · simp only [va_up]
    split <;> omega
  · split
    · simp only [va_up]
      split <;> omega
    · split
      · simp only [va_up]
        split
        · omega
        · split <;> omega
      · split
        · simp only [va_up]
          split
          · omega
          · split <;> omega
        · simp only [va_up]
          split
          · omega
          · split <;> omega
def bits (s : Nat) : Nat := if s = 0 then 0 else if s = 3 then 2 else 1
/-- spoiled copies of k orders from p on -/
def spN (v : rw_) : Nat → Nat → Nat
  | 0, _ => 0
  | k + 1, p => bits (od v p 4) + spN v k (p + 1)
def unN (v : rw_) : Nat → Nat → Nat
  | 0, _ => 0
  | k + 1, p => (if od v p 4 = 3 then 1 else 0) + unN v k (p + 1)
/-- an int array -/
def ar (e : va_E) (z : Nat) (f : Nat → Int32) : Prop := e = .inl (0, z, .inl f)
/-- a State of the class -/
def isShip (M : jM) (b : Nat) (v : rw_) (t : Nat) : Prop := ∃ F G : Nat → Int32, M b = .inr (1, [.int (zN (v t)), .int (zN (v (t + 4))), .int (zN (v (t + 1))), .int (zN (v (t + 2))), .int (zN (v (t + 3))), .ref (b + 1), .ref (b + 2)]) ∧ M (b + 1) = .inl (0, 8, .inl F) ∧ M (b + 2) = .inl (0, 8, .inl G) ∧ (∀ j, j < 8 → F j = zN (v (t + 5 + j))) ∧ (∀ j, j < 8 → G j = zN (v (t + 13 + j)))
def isRing (M : jM) (b : Nat) (v : rw_) : Prop := ∃ K0 K1 K2 K3 K4 : Nat → Int32, M b = .inr (0, [.int (zN (v 0)), .int (zN (v 1)), .int (zN (v 2)), .ref (b + 1), .ref (b + 2), .ref (b + 3), .ref (b + 4), .ref (b + 5)]) ∧ M (b + 1) = .inl (0, 32, .inl K0) ∧ M (b + 2) = .inl (0, 32, .inl K1) ∧ M (b + 3) = .inl (0, 32, .inl K2) ∧ M (b + 4) = .inl (0, 32, .inl K3) ∧ M (b + 5) = .inl (0, 32, .inl K4) ∧ ∀ p, v 1 ≤ p → p < v 2 → K0 (p % 32) = zN (od v p 0) ∧ K1 (p % 32) = zN (od v p 1) ∧ K2 (p % 32) = zN (od v p 2) ∧ K3 (p % 32) = zN (od v p 3) ∧ K4 (p % 32) = zN (od v p 4)
def isSt (M : jM) (b : Nat) (v : rw_) : Prop := M b = .inr (2, [.ref (b + 1), .ref (b + 7), .ref (b + 10), .int (zN (v 3))]) ∧ isRing M (b + 1) v ∧ isShip M (b + 7) v 164 ∧ isShip M (b + 10) v 185
/-- what lies outside [b, c) is as it was -/
def sm (M M' : jM) (b c : Nat) : Prop := ∀ a, a < b ∨ c ≤ a → M' a = M a
