/-! what the calls do to a row -/
def fresh (n : Nat) : rw_ := fun k => if k = 0 then n else if k = 165 ∨ k = 186 then 1 else 0
theorem od_lt {p w : Nat} (hw : w < 5) : 4 + 5 * (p % 32) + w < 164 := by omega
theorem doR_out {f : rw_} {t k a b n j : Nat} (ha : a < 8) (hb : b < 8) (hj : j < t ∨ t + 8 ≤ j) : doR f t k a b n j = f j := by
  unfold doR
  split
  · rw [va_up_ne _ _ (by omega)]
  · split
    · rw [va_up_ne _ _ (by omega)]
    · split
      · rw [va_up_ne _ _ (by omega), va_up_ne _ _ (by omega)]
      · split
        · rw [va_up_ne _ _ (by omega), va_up_ne _ _ (by omega)]
        · rw [va_up_ne _ _ (by omega), va_up_ne _ _ (by omega)]
theorem doR_sh {w f : rw_} {t k a b n : Nat} (ha : a < 8) (hb : b < 8) (hf : ∀ j, j < 8 → f j = w (t + j)) : ∀ j, j < 8 → doR f 0 k a b n j = doR w t k a b n (t + j) := by
  intro j hj
  have e0 := hf j hj
  have ea := hf a ha
  have eb := hf b hb
  unfold doR
  simp only [Nat.zero_add, ea, eb]
  have q : ∀ c : Nat, (t + j = t + c) = (j = c) := fun c => by rw [Nat.add_left_cancel_iff]
  split
  · simp only [va_up, q, e0]
  · split
    · simp only [va_up, q, e0]
    · split
      · simp only [va_up, q, e0]
      · split
        · simp only [va_up, q, e0]
        · simp only [va_up, q, e0]
def rq1 (v : rw_) (t : Nat) : rw_ := va_up (doO v (v t) v (t + 5)) t (v t + 1)
def rqN (v : rw_) (t : Nat) : Nat → rw_
  | 0 => v
  | k + 1 => rq1 (rqN v t k) t
def rpF (v : rw_) (t k : Nat) : rw_ := va_up (rqN v t k) (t + 2) (v (t + 2) + k)
def could (v : rw_) (t : Nat) : Nat := if v (t + 1) = 1 then stopF v (v t) - v t else 0
theorem od_eq {v v' : rw_} (h : ∀ j, j < 164 → v' j = v j) (p : Nat) {w : Nat} (hw : w < 5) : od v' p w = od v p w := h _ (od_lt hw)
theorem okO_eq {v v' : rw_} (h : ∀ p w, w < 5 → od v' p w = od v p w) {p : Nat} (ho : okO v p) : okO v' p := by
  unfold okO
  rw [h p 0 (by omega), h p 1 (by omega), h p 2 (by omega), h p 3 (by omega), h p 4 (by omega)]
  exact ho
theorem doO_od {v v' f : rw_} {p t : Nat} (h : ∀ w, w < 5 → od v' p w = od v p w) : doO v' p f t = doO v p f t := by
  unfold doO
  rw [h 0 (by omega), h 1 (by omega), h 2 (by omega), h 3 (by omega)]
theorem rqN_out {v : rw_} {t : Nat} (ht : 164 ≤ t) : ∀ k, (∀ i, i < k → okO v (v t + i)) → rqN v t k t = v t + k ∧ ∀ j, j ≠ t → (j < t + 5 ∨ t + 13 ≤ j) → rqN v t k j = v j := by
  intro k
  induction k with
  | zero => exact fun _ => ⟨rfl, fun _ _ _ => rfl⟩
  | succ k ih =>
    intro ho
    obtain ⟨h1, h2⟩ := ih fun i hi => ho i (by omega)
    have hk := ho k (by omega)
    have q := okO_eq (od_eq (v := v) (v' := rqN v t k) fun j hj => h2 j (by omega) (by omega)) hk
    obtain ⟨q0, q1, q2, q3, q4, q5, q6⟩ := q
    refine ⟨?_, fun j h3 h4 => ?_⟩
    · show rq1 (rqN v t k) t t = _
      unfold rq1
      rw [va_up_self, h1]
      omega
    · show rq1 (rqN v t k) t j = _
      unfold rq1 doO
      rw [va_up_ne _ _ h3, h1, doR_out q1 q2 (by omega)]
      exact h2 j h3 h4
theorem stp_k {v : rw_} : ∀ n p, p ≤ stp v n p ∧ stp v n p ≤ p + n ∧ (∀ k, k < stp v n p - p → od v (p + k) 4 ≠ 3) ∧ (stp v n p < p + n → od v (stp v n p) 4 = 3) := by
  intro n
  induction n with
  | zero =>
    intro p
    refine ⟨Nat.le_refl _, Nat.le_refl _, fun k hk => ?_, fun hk => ?_⟩
    · unfold stp at hk
      omega
    · unfold stp at hk
      omega
  | succ n ih =>
    intro p
    by_cases c : od v p 4 = 3
    · have e : stp v (n + 1) p = p := by
        unfold stp
        rw [if_pos c]
      rw [e]
      exact ⟨Nat.le_refl _, by omega, fun k hk => by omega, fun _ => c⟩
    · have e : stp v (n + 1) p = stp v n (p + 1) := by
        show (if od v p 4 = 3 then p else stp v n (p + 1)) = _
        rw [if_neg c]
      rw [e]
      obtain ⟨h1, h2, h3, h4⟩ := ih (p + 1)
      refine ⟨by omega, by omega, fun k hk => ?_, fun hk => h4 (by omega)⟩
      cases k with
      | zero => exact c
      | succ k =>
        have := h3 k (by omega)
        rw [show p + (k + 1) = p + 1 + k by omega]
        exact this
def eqN (f g : rw_) : Nat → Nat → Nat
  | 0, _ => 1
  | n + 1, j => if f j = g j then eqN f g n (j + 1) else 0
def crR (v : rw_) (t : Nat) : rw_ := fun k => if k = t then v (t + 4) else if t + 5 ≤ k ∧ k < t + 13 then v (k + 8) else if k = t + 3 then v (t + 3) + 1 else v k
def snR (v : rw_) (t : Nat) : rw_ := fun k => if k = t + 4 then v t else if t + 13 ≤ k ∧ k < t + 21 then v (k - 8) else v k
def snF (v : rw_) (t : Nat) : rw_ := va_up (snR v t) 1 (min (snR v t 168) (snR v t 189))
/-- an order's place is repaired -/
def sp0 (v : rw_) (p : Nat) : rw_ := va_up v (4 + 5 * (p % 32) + 4) 0
def knows (v : rw_) (p : Nat) : Bool := decide (od v p 4 ≠ 3) || (decide (v 165 = 1) && decide (p < v 164)) || (decide (v 186 = 1) && decide (p < v 185))
/-- n orders from p on -/
def rprN : Nat → Nat → rw_ → Nat × rw_
  | 0, _, v => (0, v)
  | n + 1, p, v => if knows v p then ((bits (od v p 4)) + (rprN n (p + 1) (sp0 v p)).1, (rprN n (p + 1) (sp0 v p)).2) else rprN n (p + 1) v
