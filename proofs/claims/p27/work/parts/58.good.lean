/-! what the law asks of a row: the holds come out of one another by the kept orders -/
def hisS (v : rw_) (H : Nat → rw_) (t : Nat) : Prop := ∀ j, j < 8 → v (t + 5 + j) = H (v t) j ∧ v (t + 13 + j) = H (v (t + 4)) j
def hisO (v : rw_) (H : Nat → rw_) : Prop := ∀ p, v 1 ≤ p → p < v 2 → ∀ j, j < 8 → H (p + 1) j = doO v p (H p) 0 j
def gdS (v : rw_) (B t : Nat) : Prop := v t ≤ v (t + 2) ∧ v (t + 2) ≤ B ∧ v (t + 3) ≤ B
def gdO (v : rw_) : Prop := ∀ p, v 1 ≤ p → p < v 2 → od v p 0 < 2 → od v p 2 = 0
def gdV (v : rw_) (B : Nat) (H : Nat → rw_) : Prop := okV v B ∧ v 1 = min (v 168) (v 189) ∧ gdO v ∧ (gdS v B 164 ∧ gdS v B 185) ∧ hisO v H ∧ hisS v H 164 ∧ hisS v H 185
theorem gdS_w {v : rw_} {B B' t : Nat} (h : gdS v B t) (hB : B ≤ B') : gdS v B' t := ⟨h.1, Nat.le_trans h.2.1 hB, Nat.le_trans h.2.2 hB⟩
theorem gd_w {v : rw_} {B B' : Nat} {H : Nat → rw_} (h : gdV v B H) (hB : B ≤ B') : gdV v B' H := ⟨okV_w h.1 hB, h.2.1, h.2.2.1, ⟨gdS_w h.2.2.2.1.1 hB, gdS_w h.2.2.2.1.2 hB⟩, h.2.2.2.2⟩
theorem gd_s {v : rw_} {B s : Nat} {H : Nat → rw_} (h : gdV v B H) (hs : s < 2) : gdS v B (164 + 21 * s) ∧ hisS v H (164 + 21 * s) := by
  obtain rfl | rfl : s = 0 ∨ s = 1 := by omega
  · exact ⟨h.2.2.2.1.1, h.2.2.2.2.2.1⟩
  · exact ⟨h.2.2.2.1.2, h.2.2.2.2.2.2⟩
theorem doO_od4 {v v' f : rw_} {p t : Nat} (h : ∀ w, w < 4 → od v' p w = od v p w) : doO v' p f t = doO v p f t := by
  unfold doO
  rw [h 0 (by omega), h 1 (by omega), h 2 (by omega), h 3 (by omega)]
theorem doO_cg {v f g : rw_} {p : Nat} (ho : okO v p) (h : ∀ j, j < 8 → f j = g j) : ∀ j, j < 8 → doO v p f 0 j = doO v p g 0 j := by
  intro j hj
  have := doR_sh (f := f) (w := g) (t := 0) (k := od v p 0) (n := od v p 3) ho.2.1 ho.2.2.1 (fun j hj => by rw [h j hj, Nat.zero_add]) j hj
  rw [Nat.zero_add] at this
  exact this
theorem thk_H {v : rw_} {H : Nat → rw_} (hH : hisO v H) (hO : ∀ p, v 1 ≤ p → p < v 2 → okO v p) : ∀ n p (f : rw_), v 1 ≤ p → p + n ≤ v 2 → (∀ j, j < 8 → f j = H p j) → ∀ j, j < 8 → thk v n p f j = H (p + n) j := by
  intro n
  induction n with
  | zero => exact fun p f _ _ hf => hf
  | succ n ih =>
    intro p f h1 h2 hf j hj
    have := ih (p + 1) (doO v p f 0) (by omega) (by omega) (fun i hi => by rw [doO_cg (hO p h1 (by omega)) hf i hi, hH p h1 (by omega) i hi]) j hj
    rw [show p + (n + 1) = p + 1 + n by omega]
    exact this
theorem un_pos {v : rw_} : ∀ n p q, p ≤ q → q < p + n → od v q 4 = 3 → 0 < unN v n p := by
  intro n
  induction n with
  | zero => exact fun p q h1 h2 _ => by omega
  | succ n ih =>
    intro p q h1 h2 h3
    show 0 < (if od v p 4 = 3 then 1 else 0) + unN v n (p + 1)
    by_cases c : q = p
    · subst c
      rw [if_pos h3]
      omega
    · have := ih (p + 1) q (by omega) (by omega) h3
      omega
theorem al_ne {v : rw_} : ∀ n p, ¬ alN v n p = 1 → ∃ q, p ≤ q ∧ q < p + n ∧ od v q 4 = 3 := by
  intro n
  induction n with
  | zero => exact fun p h => absurd rfl h
  | succ n ih =>
    intro p h
    by_cases c : od v p 4 = 3
    · exact ⟨p, Nat.le_refl _, by omega, c⟩
    · have e : alN v (n + 1) p = alN v n (p + 1) := by
        show (if od v p 4 = 3 then 0 else alN v n (p + 1)) = _
        rw [if_neg c]
      rw [e] at h
      obtain ⟨q, h1, h2, h3⟩ := ih (p + 1) h
      exact ⟨q, by omega, by omega, h3⟩
theorem eqN_one {f g : rw_} : ∀ n i, (∀ j, i ≤ j → j < i + n → f j = g j) → eqN f g n i = 1 := by
  intro n
  induction n with
  | zero => exact fun i _ => rfl
  | succ n ih =>
    intro i h
    show (if f i = g i then eqN f g n (i + 1) else 0) = 1
    rw [if_pos (h i (Nat.le_refl _) (by omega))]
    exact ih (i + 1) fun j h1 h2 => h j (by omega) (by omega)
theorem tons_gd {v : rw_} {B s j : Nat} {H : Nat → rw_} (hg : gdV v B H) (hs : s < 2) (hj : j < 8) : tonsI v (v (164 + 21 * s)) j = zN (v (164 + 21 * s + 5 + j)) ∨ (tonsI v (v (164 + 21 * s)) j = zM 0 ∧ 0 < unN v (v 2 - v 1) (v 1)) := by
  obtain ⟨hv, hm, -, -, hH, h0, h1⟩ := id hg
  obtain ⟨q0, q1, q2, q3, q4, q5, x, y⟩ := id hv
  obtain ⟨z1, z2, z3, -⟩ := okV_s hv hs
  have e := ((gd_s hg hs).2 j hj).1
  have p0 : v (slT v + 4) = v 1 := by
    unfold slT
    split
    · show v 168 = v 1
      omega
    · show v 189 = v 1
      omega
  have f0 : ∀ j, j < 8 → v (slT v + 13 + j) = H (v 1) j := by
    intro j hj
    rw [← p0]
    unfold slT
    split
    · exact (h0 j hj).2
    · exact (h1 j hj).2
  unfold tonsI
  rw [p0, if_neg (by omega)]
  by_cases c : alN v (v (164 + 21 * s) - v 1) (v 1) = 1
  · left
    rw [if_pos c, thk_H hH q5 (v (164 + 21 * s) - v 1) (v 1) _ (Nat.le_refl _) (by omega) f0 j hj, e, show v 1 + (v (164 + 21 * s) - v 1) = v (164 + 21 * s) by omega]
  · right
    rw [if_neg c]
    obtain ⟨q, l1, l2, l3⟩ := al_ne _ _ c
    exact ⟨rfl, un_pos _ _ q l1 (by omega) l3⟩
theorem agr_gd {v : rw_} {B : Nat} {H : Nat → rw_} (hg : gdV v B H) : agrI v = zN 1 ∨ (agrI v = zM 0 ∧ 0 < unN v (v 2 - v 1) (v 1)) := by
  obtain ⟨hv, hm, -, -, hH, h0, h1⟩ := id hg
  obtain ⟨q0, q1, q2, q3, q4, q5, x, y⟩ := id hv
  obtain ⟨x1, x2, x3, -⟩ := x
  obtain ⟨y1, y2, y3, -⟩ := y
  have x1 : v 1 ≤ v 168 := x1
  have x2 : v 168 ≤ v 164 := x2
  have y1 : v 1 ≤ v 189 := y1
  have y2 : v 189 ≤ v 185 := y2
  have key : ∀ a b (f g : rw_), v 1 ≤ a → a ≤ b → b ≤ v 2 → (∀ j, j < 8 → f j = H a j) → (∀ j, j < 8 → g j = H b j) → (if alN v (b - a) a = 1 then zN (eqN g (thk v (b - a) a f) 8 0) else zM 0) = zN 1 ∨ ((if alN v (b - a) a = 1 then zN (eqN g (thk v (b - a) a f) 8 0) else zM 0) = zM 0 ∧ 0 < unN v (v 2 - v 1) (v 1)) := by
    intro a b f g l1 l2 l3 hf hgb
    by_cases c : alN v (b - a) a = 1
    · left
      rw [if_pos c, eqN_one 8 0 fun j _ hj => ?_]
      rw [hgb j (by omega), thk_H hH q5 (b - a) a f l1 (by omega) hf j (by omega), show a + (b - a) = b by omega]
    · right
      rw [if_neg c]
      obtain ⟨q, m1, m2, m3⟩ := al_ne _ _ c
      exact ⟨rfl, un_pos _ _ q (by omega) (by omega) m3⟩
  unfold agrI
  by_cases c : v 164 ≤ v 185
  · have et : bhT v = 164 := if_pos c
    rw [et]
    exact key (v 164) (v 185) (fun j => v (169 + j)) (fun j => v (190 + j)) (by omega) c y3 (fun j hj => (h0 j hj).1) (fun j hj => (h1 j hj).1)
  · have et : bhT v = 185 := if_neg c
    rw [et]
    exact key (v 185) (v 164) (fun j => v (190 + j)) (fun j => v (169 + j)) (by omega) (by omega) x3 (fun j hj => (h1 j hj).1) (fun j hj => (h0 j hj).1)
/-! what is so stays so -/
theorem gd_fresh {n : Nat} (h1 : 4 ≤ n) (h2 : n ≤ 32) : gdV (fresh n) 0 (fun _ _ => 0) := by
  have z : ∀ j, j ≠ 0 → j ≠ 165 → j ≠ 186 → fresh n j = 0 := fun j l1 l2 l3 => by
    unfold fresh
    rw [if_neg l1, if_neg (by omega)]
  have s : ∀ t, t = 164 ∨ t = 185 → gdS (fresh n) 0 t ∧ hisS (fresh n) (fun _ _ => 0) t := by
    intro t ht
    refine ⟨⟨?_, ?_, ?_⟩, fun j hj => ⟨?_, ?_⟩⟩
    · rw [z t (by omega) (by omega) (by omega)]
      exact Nat.zero_le _
    · rw [z (t + 2) (by omega) (by omega) (by omega)]
      exact Nat.le_refl _
    · rw [z (t + 3) (by omega) (by omega) (by omega)]
      exact Nat.le_refl _
    · exact z _ (by omega) (by omega) (by omega)
    · exact z _ (by omega) (by omega) (by omega)
  have e1 := z 1 (by omega) (by omega) (by omega)
  have e2 := z 2 (by omega) (by omega) (by omega)
  refine ⟨ok_fresh h1 h2, ?_, fun p l1 l2 => ?_, ⟨(s 164 (by omega)).1, (s 185 (by omega)).1⟩, fun p l1 l2 => ?_, (s 164 (by omega)).2, (s 185 (by omega)).2⟩
  · rw [e1, z 168 (by omega) (by omega) (by omega), z 189 (by omega) (by omega) (by omega)]
    rfl
  · omega
  · omega
/-- nothing changes but links, counts and how orders are spoiled -/
theorem gd_eq {v v' : rw_} {B B' : Nat} {H : Nat → rw_} (hg : gdV v B H) (hB : B ≤ B') (hv : okV v' B') (h1 : v' 1 = v 1) (h2 : v' 2 = v 2) (ho : ∀ p w, w < 4 → od v' p w = od v p w) (hj : ∀ j, 164 ≤ j → j ≠ 165 → j ≠ 186 → v' j = v j) : gdV v' B' H := by
  obtain ⟨-, g1, g2, g3, g4, g5, g6⟩ := gd_w hg hB
  have s : ∀ t, t = 164 ∨ t = 185 → gdS v B' t ∧ hisS v H t → gdS v' B' t ∧ hisS v' H t := by
    intro t ht h
    obtain ⟨⟨a1, a2, a3⟩, a4⟩ := h
    refine ⟨⟨?_, ?_, ?_⟩, fun j hj' => ?_⟩
    · rw [hj t (by omega) (by omega) (by omega), hj (t + 2) (by omega) (by omega) (by omega)]
      exact a1
    · rw [hj (t + 2) (by omega) (by omega) (by omega)]
      exact a2
    · rw [hj (t + 3) (by omega) (by omega) (by omega)]
      exact a3
    · rw [hj (t + 5 + j) (by omega) (by omega) (by omega), hj (t + 13 + j) (by omega) (by omega) (by omega), hj t (by omega) (by omega) (by omega), hj (t + 4) (by omega) (by omega) (by omega)]
      exact a4 j hj'
  have s0 := s 164 (by omega) ⟨g3.1, g5⟩
  have s1 := s 185 (by omega) ⟨g3.2, g6⟩
  refine ⟨hv, ?_, fun p l1 l2 => ?_, ⟨s0.1, s1.1⟩, fun p l1 l2 j hj' => ?_, s0.2, s1.2⟩
  · rw [h1, hj 168 (by omega) (by omega) (by omega), hj 189 (by omega) (by omega) (by omega)]
    exact g1
  · rw [ho p 0 (by omega), ho p 2 (by omega)]
    exact g2 p (by omega) (by omega)
  · rw [doO_od4 (ho p)]
    exact g4 p (by omega) (by omega) j hj'
theorem gd_sp {v : rw_} {B p c : Nat} {H : Nat → rw_} (hg : gdV v B H) (h1 : v 1 ≤ p) (h2 : p < v 2) (hc : c < 2) : gdV (spR v p c) B H :=
  gd_eq hg (Nat.le_refl _) (ok_sp hg.1 h1 h2 hc) (sp_out (by omega)) (sp_out (by omega)) (fun p' w hw => sp_od hw) (fun j hj _ _ => sp_out (by omega))
theorem gd_rpr {v : rw_} {B : Nat} {H : Nat → rw_} (hg : gdV v B H) : gdV (rprF v) B H := by
  obtain ⟨g1, g2⟩ := rpr_at (v := v) (v 2 - v 1) (v 1)
  have g3 : ∀ j, j ≠ 3 → (∀ q, j ≠ 4 + 5 * (q % 32) + 4) → rprF v j = v j := fun j l1 l2 => (va_up_ne _ _ l1).trans (g1 j l2)
  exact gd_eq hg (Nat.le_refl _) (ok_rpr hg.1) (g3 1 (by omega) (by omega)) (g3 2 (by omega) (by omega)) (fun p w hw => g3 _ (by omega) (by omega)) (fun j hj _ _ => g3 j (by omega) (by omega))
theorem gd_lk {v : rw_} {B s up : Nat} {H : Nat → rw_} (hs : s < 2) (hg : gdV v B H) (hup : up < 2) : gdV (lkR v (164 + 21 * s) up) B H := by
  have e : ∀ j, j ≠ 164 + 21 * s + 1 → lkR v (164 + 21 * s) up j = v j := fun j hj => va_up_ne _ _ hj
  exact gd_eq hg (Nat.le_refl _) (ok_lk hs hg.1 hup) (e 1 (by omega)) (e 2 (by omega)) (fun p w hw => e _ (by omega)) (fun j hj l1 l2 => e j (by omega))
theorem gd_wr {v : rw_} {B k a b n : Nat} {H : Nat → rw_} (hg : gdV v B H) (hk : k ≤ 4) (ha : a < 8) (hb : b < 8) (hn : 1 ≤ n) (hn' : n ≤ 99) (hab : 2 ≤ k → a ≠ b) (hf : v 2 - v 1 < v 0) : ∃ H', gdV (wrR v k a b n) (B + 1) H' := by
  have hv' := ok_wr hg.1 hk ha hb hn hn' hab hf
  obtain ⟨hv, g1, g2, g3, g4, g5, g6⟩ := id hg
  obtain ⟨q0, q1, q2, q3, q4, q5, x, y⟩ := id hv
  have e : ∀ j, j < 2 ∨ j = 3 ∨ 164 ≤ j → wrR v k a b n j = v j := fun j hj => wr_out hj
  have e2 : wrR v k a b n 2 = v 2 + 1 := if_pos rfl
  have ho : ∀ p, v 1 ≤ p → p < v 2 → ∀ w, w < 5 → od (wrR v k a b n) p w = od v p w := by
    intro p l1 l2 w hw
    have : ¬ p % 32 = v 2 % 32 := by omega
    obtain ⟨w0, w1, w2, w3, w4⟩ := wr_od (v := v) (k := k) (a := a) (b := b) (n := n) (p := p)
    rw [if_neg this] at w0 w1 w2 w3 w4
    obtain rfl | rfl | rfl | rfl | rfl : w = 0 ∨ w = 1 ∨ w = 2 ∨ w = 3 ∨ w = 4 := by omega
    · exact w0
    · exact w1
    · exact w2
    · exact w3
    · exact w4
  refine ⟨fun p => if p ≤ v 2 then H p else doO (wrR v k a b n) (v 2) (H (v 2)) 0, hv', ?_, fun p l1 l2 => ?_, ⟨?_, ?_⟩, fun p l1 l2 j hj => ?_, ?_, ?_⟩
  · rw [e 1 (by omega), e 168 (by omega), e 189 (by omega)]
    exact g1
  · rw [e 1 (by omega)] at l1
    rw [e2] at l2
    by_cases c : p < v 2
    · rw [ho p l1 c 0 (by omega), ho p l1 c 2 (by omega)]
      exact g2 p l1 c
    · have hp : p = v 2 := by omega
      subst hp
      obtain ⟨w0, w1, w2, w3, w4⟩ := wr_od (v := v) (k := k) (a := a) (b := b) (n := n) (p := v 2)
      rw [if_pos rfl] at w0 w2
      rw [w0, w2]
      intro l
      rw [if_neg (by omega)]
  · obtain ⟨a1, a2, a3⟩ := gdS_w (B' := B + 1) g3.1 (by omega)
    exact ⟨by rw [e _ (by omega), e _ (by omega)]; exact a1, by rw [e _ (by omega)]; exact a2, by rw [e _ (by omega)]; exact a3⟩
  · obtain ⟨a1, a2, a3⟩ := gdS_w (B' := B + 1) g3.2 (by omega)
    exact ⟨by rw [e _ (by omega), e _ (by omega)]; exact a1, by rw [e _ (by omega)]; exact a2, by rw [e _ (by omega)]; exact a3⟩
  · rw [e 1 (by omega)] at l1
    rw [e2] at l2
    dsimp only
    by_cases c : p < v 2
    · rw [if_pos (by omega), if_pos (by omega), doO_od (ho p l1 c)]
      exact g4 p l1 c j hj
    · have hp : p = v 2 := by omega
      subst hp
      rw [if_neg (by omega), if_pos (Nat.le_refl _)]
  · intro j hj
    have x2 : v 168 ≤ v 164 := x.2.1
    have x3 : v 164 ≤ v 2 := x.2.2.1
    show wrR v k a b n (169 + j) = (if wrR v k a b n 164 ≤ v 2 then H (wrR v k a b n 164) else _) j ∧ wrR v k a b n (177 + j) = (if wrR v k a b n 168 ≤ v 2 then H (wrR v k a b n 168) else _) j
    rw [e _ (by omega), e _ (by omega), e _ (by omega), e _ (by omega), if_pos x3, if_pos (by omega)]
    exact g5 j hj
  · intro j hj
    have x2 : v 189 ≤ v 185 := y.2.1
    have x3 : v 185 ≤ v 2 := y.2.2.1
    show wrR v k a b n (190 + j) = (if wrR v k a b n 185 ≤ v 2 then H (wrR v k a b n 185) else _) j ∧ wrR v k a b n (198 + j) = (if wrR v k a b n 189 ≤ v 2 then H (wrR v k a b n 189) else _) j
    rw [e _ (by omega), e _ (by omega), e _ (by omega), e _ (by omega), if_pos x3, if_pos (by omega)]
    exact g6 j hj
/-- only one ship's own numbers change, not its snapshot's place -/
theorem gd_ship {v v' : rw_} {B B' s : Nat} {H : Nat → rw_} (hs : s < 2) (hg : gdV v B H) (hB : B ≤ B') (hv : okV v' B') (h : ∀ j, j < 164 ∨ (164 + 21 * (1 - s) ≤ j ∧ j < 185 + 21 * (1 - s)) → v' j = v j) (h4 : v' (164 + 21 * s + 4) = v (164 + 21 * s + 4)) (hS : gdS v' B' (164 + 21 * s)) (hH : hisS v' H (164 + 21 * s)) : gdV v' B' H := by
  obtain ⟨-, g1, g2, g3, g4, g5, g6⟩ := gd_w hg hB
  have e0 : ∀ p w, w < 5 → od v' p w = od v p w := fun p w hw => h _ (Or.inl (od_lt hw))
  have e1 := h 1 (by omega)
  have e2 := h 2 (by omega)
  have s1 : ∀ t, t = 164 + 21 * (1 - s) → gdS v B' t ∧ hisS v H t → gdS v' B' t ∧ hisS v' H t := by
    intro t ht q
    obtain ⟨⟨a1, a2, a3⟩, a4⟩ := q
    refine ⟨⟨?_, ?_, ?_⟩, fun j hj' => ?_⟩
    · rw [h t (by omega), h (t + 2) (by omega)]
      exact a1
    · rw [h (t + 2) (by omega)]
      exact a2
    · rw [h (t + 3) (by omega)]
      exact a3
    · rw [h (t + 5 + j) (by omega), h (t + 13 + j) (by omega), h t (by omega), h (t + 4) (by omega)]
      exact a4 j hj'
  have gO : gdO v' := fun p l1 l2 => by
    rw [e0 p 0 (by omega), e0 p 2 (by omega)]
    exact g2 p (by omega) (by omega)
  have gH : hisO v' H := fun p l1 l2 j hj => by
    rw [doO_od (e0 p)]
    exact g4 p (by omega) (by omega) j hj
  obtain rfl | rfl : s = 0 ∨ s = 1 := by omega
  · have s2 := s1 185 rfl ⟨g3.2, g6⟩
    have h4 : v' 168 = v 168 := h4
    exact ⟨hv, by rw [e1, h4, h 189 (by omega)]; exact g1, gO, ⟨hS, s2.1⟩, gH, hH, s2.2⟩
  · have s2 := s1 164 rfl ⟨g3.1, g5⟩
    have h4 : v' 189 = v 189 := h4
    exact ⟨hv, by rw [e1, h4, h 168 (by omega)]; exact g1, gO, ⟨s2.1, hS⟩, gH, s2.2, hH⟩
theorem gd_cr {v : rw_} {B s : Nat} {H : Nat → rw_} (hs : s < 2) (hg : gdV v B H) : gdV (crR v (164 + 21 * s)) (B + 1) H := by
  obtain ⟨⟨a1, a2, a3⟩, a4⟩ := gd_s hg hs
  obtain ⟨z1, z2, z3, -⟩ := okV_s hg.1 hs
  have e : ∀ j, j ≠ 164 + 21 * s → (j < 164 + 21 * s + 5 ∨ 164 + 21 * s + 13 ≤ j) → j ≠ 164 + 21 * s + 3 → crR v (164 + 21 * s) j = v j := fun j h1 h2 h3 => by
    unfold crR
    rw [if_neg h1, if_neg (by omega), if_neg h3]
  have e0 : crR v (164 + 21 * s) (164 + 21 * s) = v (164 + 21 * s + 4) := if_pos rfl
  have e3 : crR v (164 + 21 * s) (164 + 21 * s + 3) = v (164 + 21 * s + 3) + 1 := by
    unfold crR
    rw [if_neg (by omega), if_neg (by omega), if_pos rfl]
  have eh : ∀ j, j < 8 → crR v (164 + 21 * s) (164 + 21 * s + 5 + j) = v (164 + 21 * s + 13 + j) := fun j hj => by
    unfold crR
    rw [if_neg (by omega), if_pos (by omega), show 164 + 21 * s + 5 + j + 8 = 164 + 21 * s + 13 + j by omega]
  refine gd_ship hs hg (by omega) (okV_w (ok_cr hs hg.1) (by omega)) (fun j hj => e j (by omega) (by omega) (by omega)) (e _ (by omega) (by omega) (by omega)) ⟨?_, ?_, ?_⟩ fun j hj => ⟨?_, ?_⟩
  · rw [e0, e _ (by omega) (by omega) (by omega)]
    omega
  · rw [e _ (by omega) (by omega) (by omega)]
    omega
  · rw [e3]
    omega
  · rw [eh j hj, e0]
    exact (a4 j hj).2
  · rw [e _ (by omega) (by omega) (by omega), e (164 + 21 * s + 4) (by omega) (by omega) (by omega)]
    exact (a4 j hj).2
theorem rqN_H {v : rw_} {H : Nat → rw_} {t : Nat} (ht : 164 ≤ t) (hH : hisO v H) (h1 : v 1 ≤ v t) (hf : ∀ j, j < 8 → v (t + 5 + j) = H (v t) j) : ∀ k, v t + k ≤ v 2 → (∀ i, i < k → okO v (v t + i)) → ∀ j, j < 8 → rqN v t k (t + 5 + j) = H (v t + k) j := by
  intro k
  induction k with
  | zero => exact fun _ _ => hf
  | succ k ih =>
    intro h2 ho j hj
    have h0 := ih (by omega) fun i hi => ho i (by omega)
    obtain ⟨r1, r2⟩ := rqN_out ht k fun i hi => ho i (by omega)
    have hk := ho k (by omega)
    have e0 : ∀ w, w < 5 → od (rqN v t k) (v t + k) w = od v (v t + k) w := fun w hw => r2 _ (by omega) (by omega)
    show rq1 (rqN v t k) t (t + 5 + j) = _
    unfold rq1
    rw [va_up_ne _ _ (by omega), r1, doO_od e0]
    have := doR_sh (f := H (v t + k)) (w := rqN v t k) (t := t + 5) (k := od v (v t + k) 0) (n := od v (v t + k) 3) hk.2.1 hk.2.2.1 (fun j hj => (h0 j hj).symm) j hj
    exact this.symm.trans (hH (v t + k) (by omega) (by omega) j hj).symm
theorem gd_rp {v : rw_} {B s k : Nat} {H : Nat → rw_} (hs : s < 2) (hg : gdV v B H) (hk : k ≤ could v (164 + 21 * s)) : gdV (rpF v (164 + 21 * s) k) (B + k) H := by
  obtain ⟨⟨a1, a2, a3⟩, a4⟩ := gd_s hg hs
  have hS := okV_s hg.1 hs
  obtain ⟨z1, z2, z3, -⟩ := id hS
  obtain ⟨m1, m2, -⟩ := could_at hg.1 hS
  have ho : ∀ i, i < k → okO v (v (164 + 21 * s) + i) := fun i hi => hg.1.2.2.2.2.2.1 _ (by omega) (by have := (m2 i (by omega)).2.1; omega)
  obtain ⟨w1, w2, w3, w4⟩ := rpF_out (by omega) ho
  have w5 := rqN_H (by omega) hg.2.2.2.2.1 (by omega) (fun j hj => (a4 j hj).1) k (by omega) ho
  refine gd_ship hs hg (by omega) (okV_w (ok_rp hs hg.1 hk) (by omega)) (fun j hj => w3 j (by omega) (by omega) (by omega)) (w3 _ (by omega) (by omega) (by omega)) ⟨?_, ?_, ?_⟩ fun j hj => ⟨?_, ?_⟩
  · rw [w1, w2]
    omega
  · rw [w2]
    omega
  · rw [w3 _ (by omega) (by omega) (by omega)]
    omega
  · rw [w4 j hj, w1]
    exact w5 j hj
  · rw [w3 _ (by omega) (by omega) (by omega), w3 (164 + 21 * s + 4) (by omega) (by omega) (by omega)]
    exact (a4 j hj).2
theorem gd_sn {v : rw_} {B s : Nat} {H : Nat → rw_} (hs : s < 2) (hg : gdV v B H) : gdV (snF v (164 + 21 * s)) B H := by
  obtain ⟨y1, y2, y3, y4⟩ := snR_ge hg.1 hs
  obtain ⟨hv, g1, g2, g3, g4, g5, g6⟩ := id hg
  have e : ∀ j, j ≠ 164 + 21 * s + 4 → (j < 164 + 21 * s + 13 ∨ 164 + 21 * s + 21 ≤ j) → snR v (164 + 21 * s) j = v j := fun j h1 h2 => by
    unfold snR
    rw [if_neg h1, if_neg (by omega)]
  have e4 : snR v (164 + 21 * s) (164 + 21 * s + 4) = v (164 + 21 * s) := if_pos rfl
  have eh : ∀ j, j < 8 → snR v (164 + 21 * s) (164 + 21 * s + 13 + j) = v (164 + 21 * s + 5 + j) := fun j hj => by
    unfold snR
    rw [if_neg (by omega), if_pos (by omega), show 164 + 21 * s + 13 + j - 8 = 164 + 21 * s + 5 + j by omega]
  have f1 : snF v (164 + 21 * s) 1 = min (snR v (164 + 21 * s) 168) (snR v (164 + 21 * s) 189) := va_up_self _ _ _
  have f : ∀ j, j ≠ 1 → snF v (164 + 21 * s) j = snR v (164 + 21 * s) j := fun j hj => va_up_ne _ _ hj
  have e0 : ∀ p w, w < 5 → od (snF v (164 + 21 * s)) p w = od v p w := fun p w hw => (f _ (by omega)).trans (e _ (by omega) (by omega))
  have e2 : snF v (164 + 21 * s) 2 = v 2 := (f 2 (by omega)).trans (e 2 (by omega) (by omega))
  have gm : v 1 ≤ snF v (164 + 21 * s) 1 := by omega
  have mine : gdS (snF v (164 + 21 * s)) B (164 + 21 * s) ∧ hisS (snF v (164 + 21 * s)) H (164 + 21 * s) := by
    obtain ⟨⟨a1, a2, a3⟩, a4⟩ := gd_s hg hs
    refine ⟨⟨?_, ?_, ?_⟩, fun j hj => ⟨?_, ?_⟩⟩
    · rw [f _ (by omega), f _ (by omega), e _ (by omega) (by omega), e _ (by omega) (by omega)]
      exact a1
    · rw [f _ (by omega), e _ (by omega) (by omega)]
      exact a2
    · rw [f _ (by omega), e _ (by omega) (by omega)]
      exact a3
    · rw [f _ (by omega), f (164 + 21 * s) (by omega), e _ (by omega) (by omega), e (164 + 21 * s) (by omega) (by omega)]
      exact (a4 j hj).1
    · rw [f _ (by omega), f (164 + 21 * s + 4) (by omega), eh j hj, e4]
      exact (a4 j hj).1
  have other : ∀ t, t = 164 + 21 * (1 - s) → gdS v B t ∧ hisS v H t → gdS (snF v (164 + 21 * s)) B t ∧ hisS (snF v (164 + 21 * s)) H t := by
    intro t ht q
    obtain ⟨⟨a1, a2, a3⟩, a4⟩ := q
    have h : ∀ j, t ≤ j → j < t + 21 → snF v (164 + 21 * s) j = v j := fun j l1 l2 => (f j (by omega)).trans (e j (by omega) (by omega))
    refine ⟨⟨?_, ?_, ?_⟩, fun j hj' => ?_⟩
    · rw [h t (by omega) (by omega), h (t + 2) (by omega) (by omega)]
      exact a1
    · rw [h (t + 2) (by omega) (by omega)]
      exact a2
    · rw [h (t + 3) (by omega) (by omega)]
      exact a3
    · rw [h (t + 5 + j) (by omega) (by omega), h (t + 13 + j) (by omega) (by omega), h t (by omega) (by omega), h (t + 4) (by omega) (by omega)]
      exact a4 j hj'
  have gO : gdO (snF v (164 + 21 * s)) := fun p l1 l2 => by
    rw [e0 p 0 (by omega), e0 p 2 (by omega)]
    exact g2 p (by omega) (by omega)
  have gH : hisO (snF v (164 + 21 * s)) H := fun p l1 l2 j hj => by
    rw [doO_od (e0 p)]
    exact g4 p (by omega) (by omega) j hj
  have gm' : snF v (164 + 21 * s) 1 = min (snF v (164 + 21 * s) 168) (snF v (164 + 21 * s) 189) := by
    rw [f1, f 168 (by omega), f 189 (by omega)]
  obtain rfl | rfl : s = 0 ∨ s = 1 := by omega
  · have s2 := other 185 rfl ⟨g3.2, g6⟩
    exact ⟨ok_sn hs hg.1, gm', gO, ⟨mine.1, s2.1⟩, gH, mine.2, s2.2⟩
  · have s2 := other 164 rfl ⟨g3.1, g5⟩
    exact ⟨ok_sn hs hg.1, gm', gO, ⟨s2.1, mine.1⟩, gH, s2.2, mine.2⟩
/-! what can be replayed, behind some of it -/
theorem stp_cg {v v' : rw_} (h : ∀ p, od v' p 4 = od v p 4) : ∀ n p, stp v' n p = stp v n p := by
  intro n
  induction n with
  | zero => exact fun _ => rfl
  | succ n ih =>
    intro p
    show (if od v' p 4 = 3 then p else stp v' n (p + 1)) = (if od v p 4 = 3 then p else stp v n (p + 1))
    rw [h p, ih (p + 1)]
theorem stp_skip {v : rw_} : ∀ k n p, (∀ i, i < k → od v (p + i) 4 ≠ 3) → stp v (n + k) p = stp v n (p + k) := by
  intro k
  induction k with
  | zero => exact fun _ _ _ => rfl
  | succ k ih =>
    intro n p h
    show (if od v p 4 = 3 then p else stp v (n + k) (p + 1)) = _
    rw [if_neg (show ¬ od v p 4 = 3 from h 0 (by omega)), ih n (p + 1) fun i hi => by have := h (i + 1) (by omega); rwa [show p + 1 + i = p + (i + 1) by omega], show p + 1 + k = p + (k + 1) by omega]
theorem could_rp {v : rw_} {B s k : Nat} (hs : s < 2) (hv : okV v B) (hk : k ≤ could v (164 + 21 * s)) : could (rpF v (164 + 21 * s) k) (164 + 21 * s) = could v (164 + 21 * s) - k := by
  have hS := okV_s hv hs
  obtain ⟨z1, z2, z3, -⟩ := id hS
  obtain ⟨m1, m2, -⟩ := could_at hv hS
  have ho : ∀ i, i < k → okO v (v (164 + 21 * s) + i) := fun i hi => hv.2.2.2.2.2.1 _ (by omega) (by have := (m2 i (by omega)).2.1; omega)
  obtain ⟨w1, w2, w3, w4⟩ := rpF_out (by omega) ho
  have e4 : ∀ p, od (rpF v (164 + 21 * s) k) p 4 = od v p 4 := fun p => w3 _ (by omega) (by omega) (by omega)
  unfold could stopF at *
  rw [w1, w3 (164 + 21 * s + 1) (by omega) (by omega) (by omega), w3 2 (by omega) (by omega) (by omega), stp_cg e4]
  by_cases c : v (164 + 21 * s + 1) = 1
  · rw [if_pos c] at hk m1 m2 ⊢
    rw [if_pos c]
    have := stp_skip (v := v) k (v 2 - (v (164 + 21 * s) + k)) (v (164 + 21 * s)) fun i hi => (m2 i (by omega)).2.2
    rw [show v 2 - (v (164 + 21 * s) + k) + k = v 2 - v (164 + 21 * s) by omega] at this
    rw [this]
    omega
  · rw [if_neg c, if_neg c]
    omega
/-- rows that come out of the same orders have the same holds at the same place -/
theorem gd_sum {v w : rw_} {B B' s : Nat} {H : Nat → rw_} (hg : gdV v B H) (hw : gdV w B' H) (hs : s < 2) (h : v (164 + 21 * s) = w (164 + 21 * s)) : (∀ j, j < 8 → v (164 + 21 * s + 5 + j) = w (164 + 21 * s + 5 + j)) ∧ sumT v (164 + 21 * s) = sumT w (164 + 21 * s) := by
  have e : ∀ j, j < 8 → v (164 + 21 * s + 5 + j) = w (164 + 21 * s + 5 + j) := fun j hj => by
    rw [((gd_s hg hs).2 j hj).1, ((gd_s hw hs).2 j hj).1, h]
  refine ⟨e, ?_⟩
  unfold sumT
  have e0 := e 0 (by omega)
  have e1 := e 1 (by omega)
  have e2 := e 2 (by omega)
  have e3 := e 3 (by omega)
  have e4 := e 4 (by omega)
  have e5 := e 5 (by omega)
  have e6 := e 6 (by omega)
  have e7 := e 7 (by omega)
  simp only [Nat.add_assoc, Nat.reduceAdd] at e0 e1 e2 e3 e4 e5 e6 e7 ⊢
  rw [e0, e1, e2, e3, e4, e5, e6, e7]
theorem sum_le {v : rw_} {B s : Nat} (hv : okV v B) (hs : s < 2) : sumT v (164 + 21 * s) ≤ 7992 := by
  have h := (okV_s hv hs).2.2.2.2.1
  have e0 := h 0 (by omega)
  have e1 := h 1 (by omega)
  have e2 := h 2 (by omega)
  have e3 := h 3 (by omega)
  have e4 := h 4 (by omega)
  have e5 := h 5 (by omega)
  have e6 := h 6 (by omega)
  have e7 := h 7 (by omega)
  unfold sumT
  simp only [Nat.add_assoc, Nat.reduceAdd] at e0 e1 e2 e3 e4 e5 e6 e7 ⊢
  omega
