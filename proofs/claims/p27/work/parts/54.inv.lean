/-! a row that can be stays one -/
theorem okS_eq {v v' : rw_} {t : Nat} (h : okS v t) (h1 : v' 1 = v 1) (h2 : v' 2 = v 2) (hv : ∀ j, j < 21 → v' (t + j) = v (t + j)) : okS v' t := by
  obtain ⟨q1, q2, q3, q4, q5, q6⟩ := h
  have e0 := hv 0 (by omega)
  rw [Nat.add_zero] at e0
  refine ⟨by rw [h1, hv 4 (by omega)]; exact q1, by rw [e0, hv 4 (by omega)]; exact q2, by rw [e0, h2]; exact q3, by rw [hv 1 (by omega)]; exact q4, fun j hj => ?_, fun j hj => ?_⟩
  · rw [Nat.add_assoc, hv (5 + j) (by omega), ← Nat.add_assoc]
    exact q5 j hj
  · rw [Nat.add_assoc, hv (13 + j) (by omega), ← Nat.add_assoc]
    exact q6 j hj
theorem okV_w {v : rw_} {B B' : Nat} (h : okV v B) (hB : B ≤ B') : okV v B' := by
  obtain ⟨q0, q1, q2, q3, q4, q5⟩ := h
  exact ⟨q0, q1, q2, q3, by omega, q5⟩
theorem ok_fresh {n : Nat} (h1 : 4 ≤ n) (h2 : n ≤ 32) : okV (fresh n) 0 := by
  have s : ∀ t, t = 164 ∨ t = 185 → okS (fresh n) t := by
    intro t ht
    have h := fresh_s (n := n) ht
    have h0 := h 0 (by omega)
    rw [Nat.add_zero, if_neg (by omega)] at h0
    have h4 := h 4 (by omega)
    rw [if_neg (by omega)] at h4
    have h1 := h 1 (by omega)
    rw [if_pos rfl] at h1
    refine ⟨by rw [h4]; exact Nat.le_refl _, by rw [h4, h0]; exact Nat.le_refl _, by rw [h0]; exact Nat.zero_le _, by rw [h1]; omega, fun j hj => ?_, fun j hj => ?_⟩
    · rw [Nat.add_assoc, h (5 + j) (by omega), if_neg (by omega)]
      omega
    · rw [Nat.add_assoc, h (13 + j) (by omega), if_neg (by omega)]
      omega
  refine ⟨h1, h2, Nat.le_refl _, Nat.zero_le _, Nat.le_refl _, fun p q1 q2 => ?_, s 164 (by omega), s 185 (by omega)⟩
  have : fresh n 2 = 0 := rfl
  omega
theorem ok_wr {v : rw_} {B k a b n : Nat} (hv : okV v B) (hk : k ≤ 4) (ha : a < 8) (hb : b < 8) (hn : 1 ≤ n) (hn' : n ≤ 99) (hab : 2 ≤ k → a ≠ b) (hf : v 2 - v 1 < v 0) : okV (wrR v k a b n) (B + 1) := by
  obtain ⟨q0, q1, q2, q3, q4, q5, q6, q7⟩ := hv
  have e0 := wr_out (v := v) (k := k) (a := a) (b := b) (n := n) (j := 0) (by omega)
  have e1 := wr_out (v := v) (k := k) (a := a) (b := b) (n := n) (j := 1) (by omega)
  have e2 : wrR v k a b n 2 = v 2 + 1 := if_pos rfl
  refine ⟨by rw [e0]; exact q0, by rw [e0]; exact q1, by rw [e1, e2]; omega, by rw [e1, e2, e0]; omega, by rw [e2]; omega, fun p l1 l2 => ?_, ?_, ?_⟩
  · rw [e1] at l1
    rw [e2] at l2
    unfold okO
    obtain ⟨w0, w1, w2, w3, w4⟩ := wr_od (v := v) (k := k) (a := a) (b := b) (n := n) (p := p)
    rw [w0, w1, w2, w3, w4]
    by_cases c : p % 32 = v 2 % 32
    · rw [if_pos c, if_pos c, if_pos c, if_pos c, if_pos c]
      refine ⟨hk, ha, by split <;> omega, hn, hn', fun h => ?_, by omega⟩
      rw [if_pos h]
      exact hab h
    · rw [if_neg c, if_neg c, if_neg c, if_neg c, if_neg c]
      have : p ≠ v 2 := fun e => c (by rw [e])
      exact q5 p l1 (by omega)
  · obtain ⟨x1, x2, x3, x4, x5, x6⟩ := q6
    refine ⟨by rw [e1, wr_out (by omega)]; exact x1, by rw [wr_out (by omega), wr_out (by omega)]; exact x2, by rw [wr_out (by omega), e2]; omega, by rw [wr_out (by omega)]; exact x4, fun j hj => by rw [wr_out (by omega)]; exact x5 j hj, fun j hj => by rw [wr_out (by omega)]; exact x6 j hj⟩
  · obtain ⟨x1, x2, x3, x4, x5, x6⟩ := q7
    refine ⟨by rw [e1, wr_out (by omega)]; exact x1, by rw [wr_out (by omega), wr_out (by omega)]; exact x2, by rw [wr_out (by omega), e2]; omega, by rw [wr_out (by omega)]; exact x4, fun j hj => by rw [wr_out (by omega)]; exact x5 j hj, fun j hj => by rw [wr_out (by omega)]; exact x6 j hj⟩
theorem ok_sp {v : rw_} {B p c : Nat} (hv : okV v B) (h1 : v 1 ≤ p) (h2 : p < v 2) (hc : c < 2) : okV (spR v p c) B := by
  obtain ⟨q0, q1, q2, q3, q4, q5, q6, q7⟩ := hv
  have e0 := sp_out (v := v) (p := p) (c := c) (j := 0) (by omega)
  have e1 := sp_out (v := v) (p := p) (c := c) (j := 1) (by omega)
  have e2 := sp_out (v := v) (p := p) (c := c) (j := 2) (by omega)
  refine ⟨by rw [e0]; exact q0, by rw [e0]; exact q1, by rw [e1, e2]; exact q2, by rw [e1, e2, e0]; exact q3, by rw [e2]; exact q4, fun p' l1 l2 => ?_, okS_eq q6 e1 e2 fun j hj => sp_out (by omega), okS_eq q7 e1 e2 fun j hj => sp_out (by omega)⟩
  rw [e1] at l1
  rw [e2] at l2
  have h4 := (q5 p h1 h2).2.2.2.2.2.2
  obtain ⟨y0, y1, y2, y3, y4, y5, y6⟩ := q5 p' l1 l2
  unfold okO
  rw [sp_od (by omega), sp_od (by omega), sp_od (by omega), sp_od (by omega), sp_od4]
  refine ⟨y0, y1, y2, y3, y4, y5, ?_⟩
  split
  · exact or_lt h4 hc
  · exact y6
theorem rpr_at {v : rw_} : ∀ n p, (∀ j, (∀ q, j ≠ 4 + 5 * (q % 32) + 4) → (rprN n p v).2 j = v j) ∧ ∀ q, od (rprN n p v).2 q 4 = od v q 4 ∨ od (rprN n p v).2 q 4 = 0 := by
  intro n
  induction n generalizing v with
  | zero => exact fun p => ⟨fun _ _ => rfl, fun _ => Or.inl rfl⟩
  | succ n ih =>
    intro p
    by_cases c : knows v p = true
    · have er : (rprN (n + 1) p v).2 = (rprN n (p + 1) (sp0 v p)).2 := by
        show (if knows v p then _ else _ : Nat × rw_).2 = _
        rw [if_pos c]
      rw [er]
      obtain ⟨g1, g2⟩ := ih (v := sp0 v p) (p + 1)
      refine ⟨fun j hj => ?_, fun q => ?_⟩
      · rw [g1 j hj]
        unfold sp0
        exact va_up_ne _ _ (hj p)
      · rcases g2 q with g | g
        · rw [g, sp0_od4]
          split
          · exact Or.inr rfl
          · exact Or.inl rfl
        · exact Or.inr g
    · have er : rprN (n + 1) p v = rprN n (p + 1) v := by
        show (if knows v p then _ else _) = _
        rw [if_neg c]
      rw [er]
      exact ih (p + 1)
theorem ok_rpr {v : rw_} {B : Nat} (hv : okV v B) : okV (rprF v) B := by
  obtain ⟨q0, q1, q2, q3, q4, q5, q6, q7⟩ := hv
  obtain ⟨g1, g2⟩ := rpr_at (v := v) (v 2 - v 1) (v 1)
  have g3 : ∀ j, j ≠ 3 → (∀ q, j ≠ 4 + 5 * (q % 32) + 4) → rprF v j = v j := fun j l1 l2 => (va_up_ne _ _ l1).trans (g1 j l2)
  have e0 := g3 0 (by omega) (by omega)
  have e1 := g3 1 (by omega) (by omega)
  have e2 := g3 2 (by omega) (by omega)
  have g4 : ∀ p w, w < 4 → od (rprF v) p w = od v p w := fun p w hw => g3 _ (by omega) (by omega)
  have g5 : ∀ p, od (rprF v) p 4 = od v p 4 ∨ od (rprF v) p 4 = 0 := fun p => by
    have : od (rprF v) p 4 = od (rprN (v 2 - v 1) (v 1) v).2 p 4 := by
      unfold od rprF
      exact va_up_ne _ _ (by omega)
    rw [this]
    exact g2 p
  refine ⟨by rw [e0]; exact q0, by rw [e0]; exact q1, by rw [e1, e2]; exact q2, by rw [e1, e2, e0]; exact q3, by rw [e2]; exact q4, fun p' l1 l2 => ?_, okS_eq q6 e1 e2 fun j hj => g3 _ (by omega) (by omega), okS_eq q7 e1 e2 fun j hj => g3 _ (by omega) (by omega)⟩
  rw [e1] at l1
  rw [e2] at l2
  obtain ⟨y0, y1, y2, y3, y4, y5, y6⟩ := q5 p' l1 l2
  unfold okO
  rw [g4 _ _ (by omega), g4 _ _ (by omega), g4 _ _ (by omega), g4 _ _ (by omega)]
  refine ⟨y0, y1, y2, y3, y4, y5, ?_⟩
  rcases g5 p' with g | g <;> omega
/-- only one ship's own numbers change -/
theorem okV_ship {v v' : rw_} {B s : Nat} (hs : s < 2) (hv : okV v B) (h : ∀ j, j < 164 ∨ (164 + 21 * (1 - s) ≤ j ∧ j < 185 + 21 * (1 - s)) → v' j = v j) (hS : okS v' (164 + 21 * s)) : okV v' B := by
  obtain ⟨q0, q1, q2, q3, q4, q5, q6, q7⟩ := hv
  have e0 := h 0 (by omega)
  have e1 := h 1 (by omega)
  have e2 := h 2 (by omega)
  refine ⟨by rw [e0]; exact q0, by rw [e0]; exact q1, by rw [e1, e2]; exact q2, by rw [e1, e2, e0]; exact q3, by rw [e2]; exact q4, fun p l1 l2 => okO_eq (od_eq fun j hj => h j (by omega)) (q5 p (by omega) (by omega)), ?_, ?_⟩
  · obtain rfl | rfl : s = 0 ∨ s = 1 := by omega
    · exact hS
    · exact okS_eq q6 e1 e2 fun j hj => h _ (by omega)
  · obtain rfl | rfl : s = 0 ∨ s = 1 := by omega
    · exact okS_eq q7 e1 e2 fun j hj => h _ (by omega)
    · exact hS
theorem ok_lk {v : rw_} {B s up : Nat} (hs : s < 2) (hv : okV v B) (hup : up < 2) : okV (lkR v (164 + 21 * s) up) B := by
  have hS := okV_s hv hs
  obtain ⟨x1, x2, x3, x4, x5, x6⟩ := hS
  have e : ∀ j, j ≠ 164 + 21 * s + 1 → lkR v (164 + 21 * s) up j = v j := fun j hj => va_up_ne _ _ hj
  refine okV_ship hs hv (fun j hj => e j (by omega)) ⟨?_, ?_, ?_, ?_, fun j hj => ?_, fun j hj => ?_⟩
  · rw [e _ (by omega), e _ (by omega)]; exact x1
  · rw [e _ (by omega), e _ (by omega)]; exact x2
  · rw [e _ (by omega), e _ (by omega)]; exact x3
  · have : lkR v (164 + 21 * s) up (164 + 21 * s + 1) = up := va_up_self _ _ _
    omega
  · rw [e _ (by omega)]; exact x5 j hj
  · rw [e _ (by omega)]; exact x6 j hj
theorem ok_cr {v : rw_} {B s : Nat} (hs : s < 2) (hv : okV v B) : okV (crR v (164 + 21 * s)) B := by
  have hS := okV_s hv hs
  obtain ⟨x1, x2, x3, x4, x5, x6⟩ := hS
  have e : ∀ j, j ≠ 164 + 21 * s → (j < 164 + 21 * s + 5 ∨ 164 + 21 * s + 13 ≤ j) → j ≠ 164 + 21 * s + 3 → crR v (164 + 21 * s) j = v j := fun j h1 h2 h3 => by
    unfold crR
    rw [if_neg h1, if_neg (by omega), if_neg h3]
  have e0 : crR v (164 + 21 * s) (164 + 21 * s) = v (164 + 21 * s + 4) := if_pos rfl
  refine okV_ship hs hv (fun j hj => e j (by omega) (by omega) (by omega)) ⟨?_, ?_, ?_, ?_, fun j hj => ?_, fun j hj => ?_⟩
  · rw [e 1 (by omega) (by omega) (by omega), e _ (by omega) (by omega) (by omega)]; exact x1
  · rw [e _ (by omega) (by omega) (by omega), e0]; exact Nat.le_refl _
  · rw [e0, e 2 (by omega) (by omega) (by omega)]; omega
  · rw [e _ (by omega) (by omega) (by omega)]; exact x4
  · have : crR v (164 + 21 * s) (164 + 21 * s + 5 + j) = v (164 + 21 * s + 5 + j + 8) := by
      unfold crR
      rw [if_neg (by omega), if_pos (by omega)]
    rw [this, show 164 + 21 * s + 5 + j + 8 = 164 + 21 * s + 13 + j by omega]
    exact x6 j hj
  · rw [e _ (by omega) (by omega) (by omega)]; exact x6 j hj
theorem ok_rp {v : rw_} {B s k : Nat} (hs : s < 2) (hv : okV v B) (hk : k ≤ could v (164 + 21 * s)) : okV (rpF v (164 + 21 * s) k) B := by
  have hS := okV_s hv hs
  obtain ⟨x1, x2, x3, x4, x5, x6⟩ := id hS
  obtain ⟨m1, m2, -⟩ := could_at hv hS
  have ho : ∀ i, i < k → okO v (v (164 + 21 * s) + i) := fun i hi => hv.2.2.2.2.2.1 _ (by omega) (by have := (m2 i (by omega)).2.1; omega)
  obtain ⟨w1, w2, w3, w4⟩ := rpF_out (by omega) ho
  have w5 := rqN_le (by omega) x5 k ho
  refine okV_ship hs hv (fun j hj => w3 j (by omega) (by omega) (by omega)) ⟨?_, ?_, ?_, ?_, fun j hj => ?_, fun j hj => ?_⟩
  · rw [w3 1 (by omega) (by omega) (by omega), w3 _ (by omega) (by omega) (by omega)]; exact x1
  · rw [w3 _ (by omega) (by omega) (by omega), w1]; omega
  · rw [w1, w3 2 (by omega) (by omega) (by omega)]; omega
  · rw [w3 _ (by omega) (by omega) (by omega)]; exact x4
  · rw [w4 j hj]; exact w5 j hj
  · rw [w3 _ (by omega) (by omega) (by omega)]; exact x6 j hj
theorem ok_sn {v : rw_} {B s : Nat} (hs : s < 2) (hv : okV v B) : okV (snF v (164 + 21 * s)) B := by
  obtain ⟨y1, y2, y3, y4⟩ := snR_ge hv hs
  have hS := okV_s hv hs
  obtain ⟨x1, x2, x3, x4, x5, x6⟩ := id hS
  have e : ∀ j, j ≠ 164 + 21 * s + 4 → (j < 164 + 21 * s + 13 ∨ 164 + 21 * s + 21 ≤ j) → snR v (164 + 21 * s) j = v j := fun j h1 h2 => by
    unfold snR
    rw [if_neg h1, if_neg (by omega)]
  have e4 : snR v (164 + 21 * s) (164 + 21 * s + 4) = v (164 + 21 * s) := if_pos rfl
  have h1 : okV (snR v (164 + 21 * s)) B := by
    refine okV_ship hs hv (fun j hj => e j (by omega) (by omega)) ⟨?_, ?_, ?_, ?_, fun j hj => ?_, fun j hj => ?_⟩
    · rw [e 1 (by omega) (by omega), e4]; omega
    · rw [e4, e _ (by omega) (by omega)]; exact Nat.le_refl _
    · rw [e _ (by omega) (by omega), e 2 (by omega) (by omega)]; exact x3
    · rw [e _ (by omega) (by omega)]; exact x4
    · rw [e _ (by omega) (by omega)]; exact x5 j hj
    · have : snR v (164 + 21 * s) (164 + 21 * s + 13 + j) = v (164 + 21 * s + 13 + j - 8) := by
        unfold snR
        rw [if_neg (by omega), if_pos (by omega)]
      rw [this, show 164 + 21 * s + 13 + j - 8 = 164 + 21 * s + 5 + j by omega]
      exact x5 j hj
  obtain ⟨q0, q1, q2, q3, q4, q5, q6, q7⟩ := h1
  have f1 : snF v (164 + 21 * s) 1 = min (snR v (164 + 21 * s) 168) (snR v (164 + 21 * s) 189) := va_up_self _ _ _
  have f : ∀ j, j ≠ 1 → snF v (164 + 21 * s) j = snR v (164 + 21 * s) j := fun j hj => va_up_ne _ _ hj
  have e1 := e 1 (by omega) (by omega)
  have e2 := e 2 (by omega) (by omega)
  have hc : ∀ t, (t = 164 ∨ t = 185) → okS (snR v (164 + 21 * s)) t → okS (snF v (164 + 21 * s)) t := by
    intro t ht h
    obtain ⟨z1, z2, z3, z4, z5, z6⟩ := h
    refine ⟨?_, by rw [f _ (by omega), f _ (by omega)]; exact z2, by rw [f _ (by omega), f _ (by omega)]; exact z3, by rw [f _ (by omega)]; exact z4, fun j hj => by rw [f _ (by omega)]; exact z5 j hj, fun j hj => by rw [f _ (by omega)]; exact z6 j hj⟩
    rw [f1, f _ (by omega)]
    rcases ht with rfl | rfl
    · exact Nat.min_le_left _ _
    · exact Nat.min_le_right _ _
  refine ⟨by rw [f 0 (by omega)]; exact q0, by rw [f 0 (by omega)]; exact q1, by rw [f1, f 2 (by omega), e2]; omega, by rw [f1, f 2 (by omega), f 0 (by omega)]; omega, by rw [f 2 (by omega)]; exact q4, fun p l1 l2 => ?_, hc _ (by omega) q6, hc _ (by omega) q7⟩
  rw [f1] at l1
  rw [f 2 (by omega)] at l2
  exact okO_eq (v := snR v (164 + 21 * s)) (v' := snF v (164 + 21 * s)) (fun p w hw => f (4 + 5 * (p % 32) + w) (by omega)) (q5 p (by omega) l2)
