/-! the texts that carries appends, read -/
theorem hitN {T : Nat → Nat} {ln a c x : Nat} (h : T a = x) (h2 : x ≠ c) : ¬ hit T ln a c := fun q => h2 (h.symm.trans q.2)
theorem digY {T : Nat → Nat} {ln a n k : Nat} (h1 : a < ln) (h : T a = 48 + k) (h2 : k < n) : dig T ln a n := ⟨h1, by omega, by omega⟩
theorem digE {T : Nat → Nat} {ln a n : Nat} (h1 : ln ≤ a) : ¬ dig T ln a n := fun q => by
  have := q.1
  omega
theorem digN {T : Nat → Nat} {ln a n x : Nat} (h : T a = x) (h2 : 48 + n ≤ x) : ¬ dig T ln a n := fun q => by
  have := q.2.2
  omega
theorem cm_m {T : Nat → Nat} {ln a f s n x y : Nat} (l : a + 6 < ln) (e0 : T a = 109) (e1 : T (a + 1) = 48 + f) (hf : f < 8) (e2 : T (a + 2) = 48 + s) (hs : s < 8) (e3 : T (a + 3) = 44) (e4 : T (a + 4) = 48 + x) (hx : x < 10) (e5 : T (a + 4 + 1) = 48 + y) (hy : y < 10) (e6 : T (a + 4 + 2) = 59) (hn : 10 * x + y = n) (h1 : 1 ≤ n) : cmdF T ln a = .inr (f, s, n, a + 4 + 2 + 1) := by
  have en : numF T ln (a + 4) = .inr (n, a + 4 + 2) := by
    unfold numF
    rw [if_pos (digY (by omega) e4 hx), if_pos (digY (by omega) e5 hy), if_neg (digN e6 (by omega)), e4, e5, if_neg (by omega)]
    rw [show 10 * (48 + x - 48) + (48 + y - 48) = n by omega]
  have ee : endF T ln (a + 4) = .inr (n, a + 4 + 2 + 1) := by
    unfold endF
    rw [en]
    dsimp only
    rw [if_pos ⟨by omega, e6⟩]
  unfold cmdF
  rw [if_neg (fun q => q.elim (hitN e0 (by omega)) (hitN e0 (by omega))), if_pos (Or.inl ⟨by omega, e0⟩), if_pos (digY (by omega) e1 hf), if_pos (digY (by omega) e2 hs), if_pos ⟨by omega, e3⟩, ee]
  dsimp only
  rw [e1, e2, show 48 + f - 48 = f by omega, show 48 + s - 48 = s by omega]
theorem cm_r {T : Nat → Nat} {ln a f x : Nat} (l : a + 3 < ln) (e0 : T a = 114) (e1 : T (a + 1) = 48 + f) (hf : f < 2) (e2 : T (a + 2) = 48 + x) (hx : x < 10) (h1 : 1 ≤ x) (e3 : T (a + 2 + 1) = 59) : cmdF T ln a = .inr (f, 0, x, a + 2 + 1 + 1) := by
  have en : numF T ln (a + 2) = .inr (x, a + 2 + 1) := by
    unfold numF
    rw [if_pos (digY (by omega) e2 hx), if_neg (digN e3 (by omega)), e2, if_neg (by omega)]
    rw [show 48 + x - 48 = x by omega]
  have ee : endF T ln (a + 2) = .inr (x, a + 2 + 1 + 1) := by
    unfold endF
    rw [en]
    dsimp only
    rw [if_pos ⟨by omega, e3⟩]
  unfold cmdF
  rw [if_neg (fun q => q.elim (hitN e0 (by omega)) (hitN e0 (by omega))), if_neg (fun q => q.elim (hitN e0 (by omega)) fun q => q.elim (hitN e0 (by omega)) (hitN e0 (by omega))), if_pos ⟨by omega, e0⟩, if_pos (digY (by omega) e1 hf), ee]
  dsimp only
  rw [e1, show 48 + f - 48 = f by omega]
theorem cm_c0 {T : Nat → Nat} {ln a : Nat} (l : a < ln) (e0 : T a = 99) : cmdF T ln a = if dig T ln (a + 1) 2 then (if hit T ln (a + 2) 59 then .inr (T (a + 1) - 48, 0, 0, a + 3) else .inl (a + 2)) else .inl (a + 1) := by
  unfold cmdF
  rw [if_neg (fun q => q.elim (hitN e0 (by omega)) (hitN e0 (by omega))), if_neg (fun q => q.elim (hitN e0 (by omega)) fun q => q.elim (hitN e0 (by omega)) (hitN e0 (by omega))), if_neg (hitN e0 (by omega)), if_pos (Or.inr ⟨l, e0⟩)]
theorem cm_c {T : Nat → Nat} {ln a f : Nat} (l : a + 2 < ln) (e0 : T a = 99) (e1 : T (a + 1) = 48 + f) (hf : f < 2) (e2 : T (a + 2) = 59) : cmdF T ln a = .inr (f, 0, 0, a + 3) := by
  rw [cm_c0 (by omega) e0, if_pos (digY (by omega) e1 hf), if_pos ⟨l, e2⟩, e1, show 48 + f - 48 = f by omega]
theorem cm_cx {T : Nat → Nat} {ln a : Nat} (l : a < ln) (e0 : T a = 99) (h : ¬ dig T ln (a + 1) 2) : cmdF T ln a = .inl (a + 1) := by
  rw [cm_c0 l e0, if_neg h]
theorem cm_l {T : Nat → Nat} {ln a f p : Nat} (l : a + 2 < ln) (e0 : T a = 108) (e1 : T (a + 1) = 48 + f) (hf : f < 8) (e2 : T (a + 2) = 44) (ee : endF T ln (a + 3) = .inl p) : cmdF T ln a = .inl p := by
  unfold cmdF
  rw [if_pos (Or.inl ⟨by omega, e0⟩), if_pos (digY (by omega) e1 hf), if_pos ⟨l, e2⟩, ee]
/-- 'la,0' -/
theorem cm_l4 {T : Nat → Nat} {f : Nat} (e0 : T 0 = 108) (e1 : T 1 = 48 + f) (hf : f < 8) (e2 : T 2 = 44) (e3 : T 3 = 48 + 0) : cmdF T 4 0 = .inl 3 := by
  refine cm_l (a := 0) (by omega) e0 e1 hf e2 ?_
  have en : numF T 4 3 = .inl 3 := by
    unfold numF
    rw [if_pos (digY (by omega) e3 (by omega)), if_neg (digE (by omega)), e3, if_pos (by omega)]
  show endF T 4 3 = _
  unfold endF
  rw [en]
/-- 'la,05' -/
theorem cm_l5 {T : Nat → Nat} {f : Nat} (e0 : T 0 = 108) (e1 : T 1 = 48 + f) (hf : f < 8) (e2 : T 2 = 44) (e3 : T 3 = 48 + 0) (e4 : T 4 = 48 + 5) : cmdF T 5 0 = .inl 5 := by
  refine cm_l (a := 0) (by omega) e0 e1 hf e2 ?_
  have en : numF T 5 3 = .inr (5, 5) := by
    unfold numF
    rw [if_pos (digY (by omega) e3 (by omega)), if_pos (digY (a := 3 + 1) (by omega) e4 (by omega)), if_neg (digE (by omega)), e3, show T (3 + 1) = 48 + 5 from e4, if_neg (by omega)]
  show endF T 5 3 = _
  unfold endF
  rw [en]
  dsimp only
  rw [if_neg fun q => by have := q.1; omega]
/-- 'la,055' -/
theorem cm_l6 {T : Nat → Nat} {f : Nat} (e0 : T 0 = 108) (e1 : T 1 = 48 + f) (hf : f < 8) (e2 : T 2 = 44) (e3 : T 3 = 48 + 0) (e4 : T 4 = 48 + 5) (e5 : T 5 = 48 + 5) : cmdF T 6 0 = .inl 5 := by
  refine cm_l (a := 0) (by omega) e0 e1 hf e2 ?_
  have en : numF T 6 3 = .inl 5 := by
    unfold numF
    rw [if_pos (digY (by omega) e3 (by omega)), if_pos (digY (a := 3 + 1) (by omega) e4 (by omega)), if_pos (digY (a := 3 + 2) (by omega) e5 (by omega))]
  show endF T 6 3 = _
  unfold endF
  rw [en]
/-- the fourteen signs -/
def is14 (T : Nat → Nat) (a b n s : Nat) : Prop := (T 0 = 109 ∧ T 1 = 48 + a ∧ T 2 = 48 + b ∧ T 3 = 44 ∧ T 4 = 48 + n / 10 ∧ T 5 = 48 + n % 10 ∧ T 6 = 59) ∧ (T 7 = 114 ∧ T 8 = 48 + s ∧ T 9 = 48 + 9 ∧ T 10 = 59) ∧ T 11 = 99 ∧ T 12 = 48 + s ∧ T 13 = 59
theorem is14_c {T : Nat → Nat} {a b n s ln : Nat} (hT : is14 T a b n s) (l : 14 ≤ ln) (ha : a < 8) (hb : b < 8) (hs : s < 2) (h1 : 1 ≤ n) (h2 : n ≤ 99) : cmdF T ln 0 = .inr (a, b, n, 7) ∧ cmdF T ln 7 = .inr (s, 0, 9, 11) ∧ cmdF T ln 11 = .inr (s, 0, 0, 14) := by
  obtain ⟨⟨t0, t1, t2, t3, t4, t5, t6⟩, ⟨t7, t8, t9, t10⟩, t11, t12, t13⟩ := hT
  exact ⟨cm_m (a := 0) (by omega) t0 t1 ha t2 hb t3 t4 (by omega) t5 (by omega) t6 (by omega) h1, cm_r (a := 7) (by omega) t7 t8 hs t9 (by omega) (by omega) t10, cm_c (a := 11) (by omega) t11 t12 hs t13⟩
theorem is14_s {T : Nat → Nat} {a b n s ln : Nat} (hT : is14 T a b n s) (l : 14 ≤ ln) (ha : a < 8) (hb : b < 8) (hs : s < 2) (h1 : 1 ≤ n) (h2 : n ≤ 99) : synF T ln 100 0 = synF T ln 97 14 := by
  obtain ⟨c0, c1, c2⟩ := is14_c hT l ha hb hs h1 h2
  have r0 : synF T ln 100 0 = synF T ln 99 7 := synF_r (n := 99) (by omega) c0
  have r1 : synF T ln 99 7 = synF T ln 98 11 := synF_r (n := 98) (by omega) c1
  have r2 : synF T ln 98 11 = synF T ln 97 14 := synF_r (n := 97) (by omega) c2
  rw [r0, r1, r2]
theorem is14_up {T : Nat → Nat} {a b n s k c : Nat} (hT : is14 T a b n s) (hk : 14 ≤ k) : is14 (va_up T k c) a b n s := by
  have e : ∀ j, j < 14 → va_up T k c j = T j := fun j hj => va_up_ne _ _ (by omega)
  unfold is14
  rw [e 0 (by omega), e 1 (by omega), e 2 (by omega), e 3 (by omega), e 4 (by omega), e 5 (by omega), e 6 (by omega), e 7 (by omega), e 8 (by omega), e 9 (by omega), e 10 (by omega), e 11 (by omega), e 12 (by omega), e 13 (by omega)]
  exact hT
theorem ht_up {T : Nat → Nat} {ln c : Nat} (h : ∀ j, j < ln → T j < 128) (hc : c < 128) : ∀ j, j < ln + 1 → va_up T ln c j < 128 := by
  intro j hj
  unfold va_up
  split
  · exact hc
  · exact h j (by omega)
/-- what the text does -/
theorem is14_y {T : Nat → Nat} {a b n s : Nat} {v : rw_} (hT : is14 T a b n s) (ha : a < 8) (hb : b < 8) (hs : s < 2) (h1 : 1 ≤ n) (h2 : n ≤ 99) (hab : a ≠ b) (hf : v 2 - v 1 < v 0) : runF T 14 100 0 v = (3, crR (rpF (wrR v 2 a b n) (164 + 21 * s) (min 9 (could (wrR v 2 a b n) (164 + 21 * s)))) (164 + 21 * s)) := by
  obtain ⟨c0, c1, c2⟩ := is14_c hT (Nat.le_refl _) ha hb hs h1 h2
  obtain ⟨⟨t0, -⟩, ⟨t7, -⟩, t11, -⟩ := hT
  have o0 : obeyF v (T 0) a b n = some (wrR v 2 a b n) := by
    rw [t0]
    unfold obeyF
    rw [if_neg (by omega), if_neg (by omega), if_neg (by omega), if_neg (by omega)]
    rfl
  have o1 : obeyF (wrR v 2 a b n) (T 7) s 0 9 = some (rpF (wrR v 2 a b n) (164 + 21 * s) (min 9 (could (wrR v 2 a b n) (164 + 21 * s)))) := by
    rw [t7]
    exact if_pos rfl
  have o2 : ∀ w : rw_, obeyF w (T 11) s 0 0 = some (crR w (164 + 21 * s)) := by
    intro w
    rw [t11]
    unfold obeyF
    rw [if_neg (by omega), if_neg (by omega), if_pos rfl]
  have r3 : ∀ w : rw_, runF T 14 97 14 w = (0, w) := fun w => runF_e (by omega)
  have r2 : ∀ w : rw_, runF T 14 98 11 w = (1, crR w (164 + 21 * s)) := fun w => (runF_s (n := 97) (by omega) c2 (o2 w)).trans (by rw [r3])
  have r1 : runF T 14 99 7 (wrR v 2 a b n) = (2, crR (rpF (wrR v 2 a b n) (164 + 21 * s) (min 9 (could (wrR v 2 a b n) (164 + 21 * s)))) (164 + 21 * s)) := (runF_s (n := 98) (by omega) c1 o1).trans (by rw [r2])
  exact (runF_s (n := 99) (by omega) c0 o0).trans (by rw [r1])
theorem is14_n {T : Nat → Nat} {a b n s : Nat} {v : rw_} (hT : is14 T a b n s) (ha : a < 8) (hb : b < 8) (hs : s < 2) (h1 : 1 ≤ n) (h2 : n ≤ 99) (hno : a = b ∨ v 0 ≤ v 2 - v 1) : runF T 14 100 0 v = (0, v) := by
  obtain ⟨c0, c1, c2⟩ := is14_c hT (Nat.le_refl _) ha hb hs h1 h2
  obtain ⟨⟨t0, -⟩, -⟩ := hT
  have o0 : obeyF v (T 0) a b n = none := by
    rw [t0]
    unfold obeyF
    have k2 : kOf 109 = 2 := rfl
    rw [if_neg (by omega), if_neg (by omega), if_neg (by omega), if_pos (by omega)]
  exact runF_n (n := 99) (by omega) c0 o0
