/-! the object as the law meets it, and what it answers -/
def isG (M : jM) (v : rw_) (cnt : Nat) (u : Nat → rw_) (ln : Nat) (tx : Nat → Nat) (B : Nat) (H : Nat → rw_) : Prop := isO M v cnt u ln tx ∧ gdV v B H ∧ ∀ k, k < cnt → ∃ H', gdV (u k) B H'
theorem isG_w {M : jM} {v : rw_} {cnt ln B B' : Nat} {u : Nat → rw_} {tx : Nat → Nat} {H : Nat → rw_} (h : isG M v cnt u ln tx B H) (hB : B ≤ B') : isG M v cnt u ln tx B' H := ⟨h.1, gd_w h.2.1 hB, fun k hk => by
  obtain ⟨H', g⟩ := h.2.2 k hk
  exact ⟨H', gd_w g hB⟩⟩
theorem isG_4 {M : jM} {v : rw_} {cnt ln B : Nat} {u : Nat → rw_} {tx : Nat → Nat} {H : Nat → rw_} (h : isG M v cnt u ln tx B H) : cnt ≤ 4 := by
  obtain ⟨tau, S, a0, a1, a2, a3, a4, a5, a6⟩ := h.1.1
  exact a6
/-- h, and k throws -/
def jT (k : Nat) (h : jH) : jH := (h.1, (if k = 0 then h.2.1 else false), h.2.2.1 + k, h.2.2.2 + 6 * k)
theorem jT_0 (h : jH) : jT 0 h = h := rfl
theorem jT_s (k : Nat) (h : jH) : j_thr (jT k h) = jT (k + 1) h := by
  show ((h.1, false, h.2.2.1 + k + 1, h.2.2.2 + 6 * k + 6) : jH) = (h.1, (if k + 1 = 0 then h.2.1 else false), h.2.2.1 + (k + 1), h.2.2.2 + 6 * (k + 1))
  have e1 : h.2.2.1 + k + 1 = h.2.2.1 + (k + 1) := by omega
  have e2 : h.2.2.2 + 6 * k + 6 = h.2.2.2 + 6 * (k + 1) := by omega
  rw [if_neg (Nat.succ_ne_zero k), e1, e2]
theorem jT_a (k : Nat) (h : jH) : j_add h (jT k (j_h0 h)) = jT k h := by
  unfold j_add jT j_h0
  simp
theorem jT_j (a b : Nat) (h : jH) : jT a (jT b h) = jT (a + b) h := by
  have e1 : h.2.2.1 + b + a = h.2.2.1 + (a + b) := by omega
  have e2 : h.2.2.2 + 6 * b + 6 * a = h.2.2.2 + 6 * (a + b) := by omega
  have e3 : (if a = 0 then (if b = 0 then h.2.1 else false) else false) = (if a + b = 0 then h.2.1 else false) := by
    by_cases c : a = 0
    · rw [if_pos c, c, Nat.zero_add]
    · rw [if_neg c, if_neg (by omega)]
  show ((h.1, (if a = 0 then (if b = 0 then h.2.1 else false) else false), h.2.2.1 + b + a, h.2.2.2 + 6 * b + 6 * a) : jH) = (h.1, (if a + b = 0 then h.2.1 else false), h.2.2.1 + (a + b), h.2.2.2 + 6 * (a + b))
  rw [e1, e2, e3]
theorem sv_gd {u : Nat → rw_} {v : rw_} {cnt B : Nat} {H : Nat → rw_} (hc : cnt ≤ 4) (hu : ∀ k, k < cnt → ∃ H', gdV (u k) B H') (hv : gdV v B H) : ∀ k, k < svC cnt → ∃ H', gdV (svU u cnt v k) B H' := by
  intro k hk
  unfold svC at hk
  unfold svU
  by_cases c : cnt < 4
  · rw [if_pos c] at hk ⊢
    by_cases ck : k = cnt
    · rw [ck, va_up_self]
      exact ⟨H, hv⟩
    · rw [va_up_ne _ _ ck]
      exact hu k (by omega)
  · rw [if_neg c] at hk ⊢
    by_cases ck : k < 3
    · rw [if_pos ck]
      exact hu (k + 1) (by omega)
    · rw [if_neg ck]
      exact ⟨H, hv⟩
theorem sv_last {u : Nat → rw_} {v : rw_} {cnt : Nat} (hc : cnt ≤ 4) : svU u cnt v (svC cnt - 1) = v ∧ 0 < svC cnt := by
  unfold svC svU
  by_cases c : cnt < 4
  · rw [if_pos c, if_pos c]
    exact ⟨va_up_self _ _ _, by omega⟩
  · rw [if_neg c, if_neg c]
    exact ⟨rfl, by omega⟩
section
variable {X : jX} {d : Nat} {M : jM} {v : rw_} {cnt ln B : Nat} {u : Nat → rw_} {tx : Nat → Nat} {H : Nat → rw_}
theorem g_v0 (hG : isG M v cnt u ln tx B H) (hB : B < 1000000000) (h : jH) : Rn X (d + 8) 112 0 [some (.ref 0), some (.int (zN 0)), none] [] M h = some (.inl (some (.int (zN (v 0)))), M, h) := wv_112 (isJ_0 hG.1.1) (o_value (w := 0) hG.1 hG.2.1.1 hB (by omega))
theorem g_v1 (hG : isG M v cnt u ln tx B H) (hB : B < 1000000000) (h : jH) : Rn X (d + 8) 112 0 [some (.ref 0), some (.int (zN 1)), none] [] M h = some (.inl (some (.int (zN (v 1)))), M, h) := wv_112 (isJ_0 hG.1.1) (o_value (w := 1) hG.1 hG.2.1.1 hB (by omega))
theorem g_v2 (hG : isG M v cnt u ln tx B H) (hB : B < 1000000000) (h : jH) : Rn X (d + 8) 112 0 [some (.ref 0), some (.int (zN 2)), none] [] M h = some (.inl (some (.int (zN (v 2)))), M, h) := wv_112 (isJ_0 hG.1.1) (o_value (w := 2) hG.1 hG.2.1.1 hB (by omega))
theorem g_v3 (hG : isG M v cnt u ln tx B H) (hB : B < 1000000000) (h : jH) : Rn X (d + 8) 112 0 [some (.ref 0), some (.int (zN 3)), none] [] M h = some (.inl (some (.int (zN (v 2 - v 1)))), M, h) := wv_112 (isJ_0 hG.1.1) (o_value (w := 3) hG.1 hG.2.1.1 hB (by omega))
theorem g_v4 (hG : isG M v cnt u ln tx B H) (hB : B < 1000000000) (h : jH) : Rn X (d + 8) 112 0 [some (.ref 0), some (.int (zN 4)), none] [] M h = some (.inl (some (.int (zN (spN v (v 2 - v 1) (v 1))))), M, h) := wv_112 (isJ_0 hG.1.1) (o_value (w := 4) hG.1 hG.2.1.1 hB (by omega))
theorem g_v5 (hG : isG M v cnt u ln tx B H) (hB : B < 1000000000) (h : jH) : Rn X (d + 8) 112 0 [some (.ref 0), some (.int (zN 5)), none] [] M h = some (.inl (some (.int (zN (unN v (v 2 - v 1) (v 1))))), M, h) := wv_112 (isJ_0 hG.1.1) (o_value (w := 5) hG.1 hG.2.1.1 hB (by omega))
theorem g_s0 {s : Nat} (hs : s < 2) (hG : isG M v cnt u ln tx B H) (hB : B < 1000000000) (h : jH) : Rn X (d + 8) 110 0 [some (.ref 0), some (.int (zN s)), some (.int (zN 0)), none] [] M h = some (.inl (some (.int (zN (v (164 + 21 * s))))), M, h) := wv_110 (isJ_0 hG.1.1) (o_ship (w := 0) hG.1 hG.2.1.1 hB hs (by omega))
theorem g_a0 (hG : isG M v cnt u ln tx B H) (hB : B < 1000000000) (h : jH) : Rn X (d + 8) 110 0 [some (.ref 0), some (.int (zN 0)), some (.int (zN 0)), none] [] M h = some (.inl (some (.int (zN (v 164)))), M, h) := g_s0 (s := 0) (by omega) hG hB h
theorem g_b0 (hG : isG M v cnt u ln tx B H) (hB : B < 1000000000) (h : jH) : Rn X (d + 8) 110 0 [some (.ref 0), some (.int (zN 1)), some (.int (zN 0)), none] [] M h = some (.inl (some (.int (zN (v 185)))), M, h) := g_s0 (s := 1) (by omega) hG hB h
theorem g_s1 {s : Nat} (hs : s < 2) (hG : isG M v cnt u ln tx B H) (hB : B < 1000000000) (h : jH) : Rn X (d + 8) 110 0 [some (.ref 0), some (.int (zN s)), some (.int (zN 1)), none] [] M h = some (.inl (some (.int (zN (v (164 + 21 * s + 4))))), M, h) := wv_110 (isJ_0 hG.1.1) (o_ship (w := 1) hG.1 hG.2.1.1 hB hs (by omega))
theorem g_a1 (hG : isG M v cnt u ln tx B H) (hB : B < 1000000000) (h : jH) : Rn X (d + 8) 110 0 [some (.ref 0), some (.int (zN 0)), some (.int (zN 1)), none] [] M h = some (.inl (some (.int (zN (v 168)))), M, h) := g_s1 (s := 0) (by omega) hG hB h
theorem g_b1 (hG : isG M v cnt u ln tx B H) (hB : B < 1000000000) (h : jH) : Rn X (d + 8) 110 0 [some (.ref 0), some (.int (zN 1)), some (.int (zN 1)), none] [] M h = some (.inl (some (.int (zN (v 189)))), M, h) := g_s1 (s := 1) (by omega) hG hB h
theorem g_s2 {s : Nat} (hs : s < 2) (hG : isG M v cnt u ln tx B H) (hB : B < 1000000000) (h : jH) : Rn X (d + 8) 110 0 [some (.ref 0), some (.int (zN s)), some (.int (zN 2)), none] [] M h = some (.inl (some (.int (zN (v (164 + 21 * s + 1))))), M, h) := wv_110 (isJ_0 hG.1.1) (o_ship (w := 2) hG.1 hG.2.1.1 hB hs (by omega))
theorem g_a2 (hG : isG M v cnt u ln tx B H) (hB : B < 1000000000) (h : jH) : Rn X (d + 8) 110 0 [some (.ref 0), some (.int (zN 0)), some (.int (zN 2)), none] [] M h = some (.inl (some (.int (zN (v 165)))), M, h) := g_s2 (s := 0) (by omega) hG hB h
theorem g_b2 (hG : isG M v cnt u ln tx B H) (hB : B < 1000000000) (h : jH) : Rn X (d + 8) 110 0 [some (.ref 0), some (.int (zN 1)), some (.int (zN 2)), none] [] M h = some (.inl (some (.int (zN (v 186)))), M, h) := g_s2 (s := 1) (by omega) hG hB h
theorem g_s3 {s : Nat} (hs : s < 2) (hG : isG M v cnt u ln tx B H) (hB : B < 1000000000) (h : jH) : Rn X (d + 8) 110 0 [some (.ref 0), some (.int (zN s)), some (.int (zN 3)), none] [] M h = some (.inl (some (.int (zN (sumT v (164 + 21 * s))))), M, h) := wv_110 (isJ_0 hG.1.1) (o_ship (w := 3) hG.1 hG.2.1.1 hB hs (by omega))
theorem g_a3 (hG : isG M v cnt u ln tx B H) (hB : B < 1000000000) (h : jH) : Rn X (d + 8) 110 0 [some (.ref 0), some (.int (zN 0)), some (.int (zN 3)), none] [] M h = some (.inl (some (.int (zN (sumT v 164)))), M, h) := g_s3 (s := 0) (by omega) hG hB h
theorem g_b3 (hG : isG M v cnt u ln tx B H) (hB : B < 1000000000) (h : jH) : Rn X (d + 8) 110 0 [some (.ref 0), some (.int (zN 1)), some (.int (zN 3)), none] [] M h = some (.inl (some (.int (zN (sumT v 185)))), M, h) := g_s3 (s := 1) (by omega) hG hB h
theorem g_s4 {s : Nat} (hs : s < 2) (hG : isG M v cnt u ln tx B H) (hB : B < 1000000000) (h : jH) : Rn X (d + 8) 110 0 [some (.ref 0), some (.int (zN s)), some (.int (zN 4)), none] [] M h = some (.inl (some (.int (zN (v (164 + 21 * s + 2))))), M, h) := wv_110 (isJ_0 hG.1.1) (o_ship (w := 4) hG.1 hG.2.1.1 hB hs (by omega))
theorem g_a4 (hG : isG M v cnt u ln tx B H) (hB : B < 1000000000) (h : jH) : Rn X (d + 8) 110 0 [some (.ref 0), some (.int (zN 0)), some (.int (zN 4)), none] [] M h = some (.inl (some (.int (zN (v 166)))), M, h) := g_s4 (s := 0) (by omega) hG hB h
theorem g_b4 (hG : isG M v cnt u ln tx B H) (hB : B < 1000000000) (h : jH) : Rn X (d + 8) 110 0 [some (.ref 0), some (.int (zN 1)), some (.int (zN 4)), none] [] M h = some (.inl (some (.int (zN (v 187)))), M, h) := g_s4 (s := 1) (by omega) hG hB h
theorem g_s5 {s : Nat} (hs : s < 2) (hG : isG M v cnt u ln tx B H) (hB : B < 1000000000) (h : jH) : Rn X (d + 8) 110 0 [some (.ref 0), some (.int (zN s)), some (.int (zN 5)), none] [] M h = some (.inl (some (.int (zN (v (164 + 21 * s + 3))))), M, h) := wv_110 (isJ_0 hG.1.1) (o_ship (w := 5) hG.1 hG.2.1.1 hB hs (by omega))
theorem g_a5 (hG : isG M v cnt u ln tx B H) (hB : B < 1000000000) (h : jH) : Rn X (d + 8) 110 0 [some (.ref 0), some (.int (zN 0)), some (.int (zN 5)), none] [] M h = some (.inl (some (.int (zN (v 167)))), M, h) := g_s5 (s := 0) (by omega) hG hB h
theorem g_b5 (hG : isG M v cnt u ln tx B H) (hB : B < 1000000000) (h : jH) : Rn X (d + 8) 110 0 [some (.ref 0), some (.int (zN 1)), some (.int (zN 5)), none] [] M h = some (.inl (some (.int (zN (v 188)))), M, h) := g_s5 (s := 1) (by omega) hG hB h
theorem g_hold {s j : Nat} (hs : s < 2) (hj : j < 8) (hG : isG M v cnt u ln tx B H) (hB : B < 1000000000) (h : jH) : Rn X (d + 8) 111 0 [some (.ref 0), some (.int (zN s)), some (.int (zN j)), none] [] M h = some (.inl (some (.int (zN (v (164 + 21 * s + 5 + j))))), M, h) := wv_111 (isJ_0 hG.1.1) (o_hold hG.1 hs hj)
theorem g_ahead {s : Nat} (hs : s < 2) (hG : isG M v cnt u ln tx B H) (hB : B < 1000000000) (h : jH) : Rn X (d + 8) 113 0 [some (.ref 0), some (.int (zN s)), none] [] M h = some (.inl (some (.int (zN (could v (164 + 21 * s))))), M, h) := wv_113 (isJ_0 hG.1.1) (o_ahead hG.1 hG.2.1.1 hB hs)
theorem g_stop {s : Nat} (hs : s < 2) (hG : isG M v cnt u ln tx B H) (hB : B < 1000000000) (h : jH) : Rn X (d + 8) 114 0 [some (.ref 0), some (.int (zN s)), none] [] M h = some (.inl (some (.int (zN (stopF v (v (164 + 21 * s)))))), M, h) := wv_114 (isJ_0 hG.1.1) (o_stop hG.1 hG.2.1.1 hB hs)
theorem g_room {s : Nat} (hs : s < 2) (hG : isG M v cnt u ln tx B H) (hB : B < 1000000000) (h : jH) : Rn X (d + 8) 116 0 [some (.ref 0), some (.int (zN s)), none] [] M h = some (.inl (some (.int (roomI v s))), M, h) := wv_116 (isJ_0 hG.1.1) (o_room hG.1 hG.2.1.1 hB hs)
theorem g_o0 {p : Nat} (h1 : v 1 ≤ p) (h2 : p < v 2) (hG : isG M v cnt u ln tx B H) (hB : B < 1000000000) (h : jH) : Rn X (d + 8) 109 0 [some (.ref 0), some (.int (zN p)), some (.int (zN 0)), none] [] M h = some (.inl (some (.int (zN (od v p 0)))), M, h) := wv_109 (isJ_0 hG.1.1) (o_order (w := 0) hG.1 hG.2.1.1 hB h1 h2 (by omega))
theorem g_o1 {p : Nat} (h1 : v 1 ≤ p) (h2 : p < v 2) (hG : isG M v cnt u ln tx B H) (hB : B < 1000000000) (h : jH) : Rn X (d + 8) 109 0 [some (.ref 0), some (.int (zN p)), some (.int (zN 1)), none] [] M h = some (.inl (some (.int (zN (od v p 1)))), M, h) := wv_109 (isJ_0 hG.1.1) (o_order (w := 1) hG.1 hG.2.1.1 hB h1 h2 (by omega))
theorem g_o2 {p : Nat} (h1 : v 1 ≤ p) (h2 : p < v 2) (hG : isG M v cnt u ln tx B H) (hB : B < 1000000000) (h : jH) : Rn X (d + 8) 109 0 [some (.ref 0), some (.int (zN p)), some (.int (zN 2)), none] [] M h = some (.inl (some (.int (zN (od v p 2)))), M, h) := wv_109 (isJ_0 hG.1.1) (o_order (w := 2) hG.1 hG.2.1.1 hB h1 h2 (by omega))
theorem g_o3 {p : Nat} (h1 : v 1 ≤ p) (h2 : p < v 2) (hG : isG M v cnt u ln tx B H) (hB : B < 1000000000) (h : jH) : Rn X (d + 8) 109 0 [some (.ref 0), some (.int (zN p)), some (.int (zN 3)), none] [] M h = some (.inl (some (.int (zN (od v p 3)))), M, h) := wv_109 (isJ_0 hG.1.1) (o_order (w := 3) hG.1 hG.2.1.1 hB h1 h2 (by omega))
theorem g_o4 {p : Nat} (h1 : v 1 ≤ p) (h2 : p < v 2) (hG : isG M v cnt u ln tx B H) (hB : B < 1000000000) (h : jH) : Rn X (d + 8) 109 0 [some (.ref 0), some (.int (zN p)), some (.int (zN 4)), none] [] M h = some (.inl (some (.int (zN (od v p 4)))), M, h) := wv_109 (isJ_0 hG.1.1) (o_order (w := 4) hG.1 hG.2.1.1 hB h1 h2 (by omega))
theorem g_o5 {p : Nat} (h1 : v 1 ≤ p) (h2 : p < v 2) (hG : isG M v cnt u ln tx B H) (hB : B < 1000000000) (h : jH) : Rn X (d + 8) 109 0 [some (.ref 0), some (.int (zN p)), some (.int (zN 5)), none] [] M h = some (.inl (some (.int (zN (ordN v p 5)))), M, h) := wv_109 (isJ_0 hG.1.1) (o_order (w := 5) hG.1 hG.2.1.1 hB h1 h2 (by omega))
theorem g_ox {p y : Int32} (hG : isG M v cnt u ln tx B H) (hB : B < 1000000000) (hp : ∀ k, v 1 ≤ k → k < v 2 → p ≠ zN k) (h : jH) : Rn X (d + 8) 109 0 [some (.ref 0), some (.int p), some (.int y), none] [] M h = some (.inl (some (.int (zM 10))), M, j_thr h) := wx_109_B (isJ_0 hG.1.1) (x70_k hG.1 hG.2.1.1 hB hp)
theorem g_tons {p j : Nat} {h : jH} (hG : isG M v cnt u ln tx B H) (hB : B < 1000000000) (hp : p < 2147483648) (hj : j < 8) : ∃ M', Rn X (d + 8) 115 0 [some (.ref 0), some (.int (zN p)), some (.int (zN j)), none] [] M h = some (.inl (some (.int (tonsI v p j))), M', h) ∧ isG M' v cnt u ln tx B H ∧ sm M M' 0 70 := by
  obtain ⟨F, e⟩ := o_tons (X := X) (d := d) (h := j_h0 h) hG.1 hG.2.1.1 hB hp hj
  exact ⟨_, wv_115 (isJ_0 hG.1.1) e, ⟨isO_17 hG.1, hG.2⟩, fun a q => va_up_ne _ _ (by omega)⟩
theorem g_tonsm {p j : Nat} {h : jH} (hG : isG M v cnt u ln tx B H) (hB : B < 1000000000) (hp : p < 2147483648) (hj : j < 8) : Rn X (d + 8) 115 0 [some (.ref 0), some (.int (zM p)), some (.int (zN j)), none] [] M h = some (.inl (some (.int (zM 0))), M, h) :=
  wv_115 (isJ_0 hG.1.1) (o_tons_m hG.1 hG.2.1.1 hB hp hj)
theorem g_less {a b : Nat} (ha : a < 2147483648) (hb : b < 2147483648) (h : jH) : Rn X d 119 0 [some (.int (zN a)), some (.int (zN b))] [] M h = some (.inl (some (.int (zN (min a b)))), M, h) := by
  by_cases c : a < b
  · rw [Nat.min_eq_left (by omega)]
    simp (disch := first | exact cs_0 | exact cs_1 _ | exact cs_2 _ _ | exact cs_3 _ _ _ | exact cs_4 _ _ _ _ | exact j_one_i _ | exact j_one_r _ | exact j_one_n | assumption | omega) only [e119_0, e119_1, e119_2, e119_5, e119_6, e119_9, e119_10, q_k_v, q_k_n, q_k_x, q_kc_v, q_kc_n, q_kc_x, q_rc, q_eq_t, q_eq_f, q_eq_nm, q_eq_mn, q_eq_mt, q_eq_mf, q_lt_t, q_lt_f, q_lt_mn, q_lt_nm, q_le_t, q_le_f, q_le_mn, q_le_nm, q_ac_t, q_ac_f, q_dv_n, q_rm_n, q_ld_n, q_lB_n, q_lJ_n, q_st_n, q_sB_n, q_sJ_n, q_sQ_n, q_cp_n, zN_add, zN_mul, zN_sub, zN_subm, zM_sub, zN_and, va_up_self, va_up_ne, j_add0, j_addt, ne_eq, not_false_eq_true, not_true_eq_false, Nat.reduceAdd, Nat.reduceSub, Nat.reduceMul, Nat.reduceMod, Nat.reduceEqDiff, q_g0_0, q_p0_0, q_g0_1, q_p0_1, q_g0_2, q_p0_2, q_g0_3, q_p0_3, q_g0_4, q_p0_4, q_g0_5, q_p0_5, q_g0_6, q_p0_6, q_g0_7, q_p0_7, q_g1_0, q_p1_0, q_g1_1, q_p1_1, q_g1_2, q_p1_2, q_g1_3, q_p1_3, q_g1_4, q_p1_4, q_g1_5, q_p1_5, q_g1_6, q_p1_6, q_g2_0, q_p2_0, q_g2_1, q_p2_1, q_g2_2, q_p2_2, q_g2_3, q_p2_3, q_g3_0, q_p3_0, q_g3_1, q_p3_1, q_g3_2, q_p3_2, q_g3_3, q_p3_3, q_g3_4, q_p3_4, q_g3_5, q_p3_5, q_g3_6, q_p3_6, q_g4_0, q_p4_0, q_g4_1, q_p4_1, q_g4_2, q_p4_2, q_g4_3, q_p4_3, q_g4_4, q_p4_4, q_g5_0, q_p5_0, q_g5_1, q_p5_1, q_g5_2, q_p5_2, q_g5_3, q_p5_3, q_g5_4, q_p5_4, q_g5_5, q_p5_5, q_g5_6, q_p5_6, q_g5_7, q_p5_7, q_g5_8, q_p5_8, q_g5_9, q_p5_9, q_g5_10, q_p5_10, q_g5_11, q_p5_11, q_g5_12, q_p5_12, q_g5_13, q_p5_13, q_g5_14, q_p5_14, q_g5_15, q_p5_15]
  · rw [Nat.min_eq_right (by omega)]
    simp (disch := first | exact cs_0 | exact cs_1 _ | exact cs_2 _ _ | exact cs_3 _ _ _ | exact cs_4 _ _ _ _ | exact j_one_i _ | exact j_one_r _ | exact j_one_n | assumption | omega) only [e119_0, e119_1, e119_2, e119_5, e119_6, e119_9, e119_10, q_k_v, q_k_n, q_k_x, q_kc_v, q_kc_n, q_kc_x, q_rc, q_eq_t, q_eq_f, q_eq_nm, q_eq_mn, q_eq_mt, q_eq_mf, q_lt_t, q_lt_f, q_lt_mn, q_lt_nm, q_le_t, q_le_f, q_le_mn, q_le_nm, q_ac_t, q_ac_f, q_dv_n, q_rm_n, q_ld_n, q_lB_n, q_lJ_n, q_st_n, q_sB_n, q_sJ_n, q_sQ_n, q_cp_n, zN_add, zN_mul, zN_sub, zN_subm, zM_sub, zN_and, va_up_self, va_up_ne, j_add0, j_addt, ne_eq, not_false_eq_true, not_true_eq_false, Nat.reduceAdd, Nat.reduceSub, Nat.reduceMul, Nat.reduceMod, Nat.reduceEqDiff, q_g0_0, q_p0_0, q_g0_1, q_p0_1, q_g0_2, q_p0_2, q_g0_3, q_p0_3, q_g0_4, q_p0_4, q_g0_5, q_p0_5, q_g0_6, q_p0_6, q_g0_7, q_p0_7, q_g1_0, q_p1_0, q_g1_1, q_p1_1, q_g1_2, q_p1_2, q_g1_3, q_p1_3, q_g1_4, q_p1_4, q_g1_5, q_p1_5, q_g1_6, q_p1_6, q_g2_0, q_p2_0, q_g2_1, q_p2_1, q_g2_2, q_p2_2, q_g2_3, q_p2_3, q_g3_0, q_p3_0, q_g3_1, q_p3_1, q_g3_2, q_p3_2, q_g3_3, q_p3_3, q_g3_4, q_p3_4, q_g3_5, q_p3_5, q_g3_6, q_p3_6, q_g4_0, q_p4_0, q_g4_1, q_p4_1, q_g4_2, q_p4_2, q_g4_3, q_p4_3, q_g4_4, q_p4_4, q_g5_0, q_p5_0, q_g5_1, q_p5_1, q_g5_2, q_p5_2, q_g5_3, q_p5_3, q_g5_4, q_p5_4, q_g5_5, q_p5_5, q_g5_6, q_p5_6, q_g5_7, q_p5_7, q_g5_8, q_p5_8, q_g5_9, q_p5_9, q_g5_10, q_p5_10, q_g5_11, q_p5_11, q_g5_12, q_p5_12, q_g5_13, q_p5_13, q_g5_14, q_p5_14, q_g5_15, q_p5_15]
/-! what changes it -/
variable {h : jH}
theorem g_write {k a b n : Nat} (hG : isG M v cnt u ln tx B H) (hB : B < 1000000000) (hk : k ≤ 4) (ha : a < 8) (hb : b < 8) (hn : 1 ≤ n) (hn' : n ≤ 99) (hab : 2 ≤ k → a ≠ b) (hf : v 2 - v 1 < v 0) : ∃ M' H', Rn X (d + 8) 103 0 [some (.ref 0), some (.int (zN k)), some (.int (zN a)), some (.int (zN b)), some (.int (zN n)), none] [] M h = some (.inl (some (.int (zN (v 2)))), M', h) ∧ isG M' (wrR v k a b n) (svC cnt) (svU u cnt v) ln tx (B + 1) H' ∧ sm M M' 0 70 := by
  obtain ⟨M', e, O, s⟩ := o_write (X := X) (d := d) (h := j_h0 h) hG.1 hG.2.1.1 hB hk ha hb hn hn' hab hf
  obtain ⟨H', g⟩ := gd_wr hG.2.1 hk ha hb hn hn' hab hf
  have hG1 := isG_w (B' := B + 1) hG (by omega)
  exact ⟨M', H', wv_103 (isJ_0 hG.1.1) e, ⟨O, g, sv_gd (isG_4 hG) hG1.2.2 hG1.2.1⟩, s⟩
theorem g_begin {k : Nat} (hG : isG M v cnt u ln tx B H) (hB : B < 1000000000) (h1 : 4 ≤ k) (h2 : k ≤ 32) : ∃ M' H', Rn X (d + 8) 102 0 [some (.ref 0), some (.int (zN k)), none] [] M h = some (.inl (some (.int (zN (v 2 - v 1)))), M', h) ∧ isG M' (fresh k) (svC cnt) (svU u cnt v) ln tx B H' ∧ sm M M' 0 70 := by
  obtain ⟨M', e, O, s⟩ := o_begin (X := X) (d := d) (h := j_h0 h) hG.1 hG.2.1.1 hB h1 h2
  exact ⟨M', _, wv_102 (isJ_0 hG.1.1) e, ⟨O, gd_w (gd_fresh h1 h2) (Nat.zero_le _), sv_gd (isG_4 hG) hG.2.2 hG.2.1⟩, s⟩
theorem g_spoil {p c : Nat} (hG : isG M v cnt u ln tx B H) (hB : B < 1000000000) (h1 : v 1 ≤ p) (h2 : p < v 2) (hc : c < 2) : ∃ M', Rn X (d + 8) 104 0 [some (.ref 0), some (.int (zN p)), some (.int (zN c)), none] [] M h = some (.inl (some (.int (zN (bits (od v p 4 ||| 1 <<< c))))), M', h) ∧ isG M' (spR v p c) (svC cnt) (svU u cnt v) ln tx B H ∧ sm M M' 0 70 := by
  obtain ⟨M', e, O, s⟩ := o_spoil (X := X) (d := d) (h := j_h0 h) hG.1 hG.2.1.1 hB h1 h2 hc
  exact ⟨M', wv_104 (isJ_0 hG.1.1) e, ⟨O, gd_sp hG.2.1 h1 h2 hc, sv_gd (isG_4 hG) hG.2.2 hG.2.1⟩, s⟩
theorem g_repair (hG : isG M v cnt u ln tx B H) (hB : B < 1000000000) : ∃ M', Rn X (d + 8) 65 0 [some (.ref 0)] [] M h = some (.inl (some (.int (zN (rprN (v 2 - v 1) (v 1) v).1))), M', h) ∧ isG M' (rprF v) (svC cnt) (svU u cnt v) ln tx B H ∧ sm M M' 0 70 := by
  obtain ⟨M', e, O, s⟩ := o_repair (X := X) (d := d + 1) (h := h) hG.1 hG.2.1.1 hB
  exact ⟨M', e, ⟨O, gd_rpr hG.2.1, sv_gd (isG_4 hG) hG.2.2 hG.2.1⟩, s⟩
theorem g_replay {s n : Nat} (hG : isG M v cnt u ln tx B H) (hB : B < 1000000000) (hs : s < 2) (h1 : 1 ≤ n) (h2 : n ≤ 99) : ∃ M', Rn X (d + 8) 105 0 [some (.ref 0), some (.int (zN s)), some (.int (zN n)), none] [] M h = some (.inl (some (.int (zN (min n (could v (164 + 21 * s)))))), M', h) ∧ isG M' (rpF v (164 + 21 * s) (min n (could v (164 + 21 * s)))) (svC cnt) (svU u cnt v) ln tx (B + n) H ∧ sm M M' 0 70 := by
  obtain ⟨M', e, O, s'⟩ := o_replay (X := X) (d := d) (h := j_h0 h) hG.1 hG.2.1.1 hB hs h1 h2
  have hG1 := isG_w (B' := B + n) hG (by omega)
  exact ⟨M', wv_105 (isJ_0 hG.1.1) e, ⟨O, gd_w (gd_rp hs hG.2.1 (Nat.min_le_right _ _)) (by omega), sv_gd (isG_4 hG) hG1.2.2 hG1.2.1⟩, s'⟩
theorem g_crash {s : Nat} (hG : isG M v cnt u ln tx B H) (hB : B < 1000000000) (hs : s < 2) : ∃ M', Rn X (d + 8) 107 0 [some (.ref 0), some (.int (zN s)), none] [] M h = some (.inl (some (.int (zN (v (164 + 21 * s) - v (164 + 21 * s + 4))))), M', h) ∧ isG M' (crR v (164 + 21 * s)) (svC cnt) (svU u cnt v) ln tx (B + 1) H ∧ sm M M' 0 70 := by
  obtain ⟨M', e, O, s'⟩ := o_crash (X := X) (d := d) (h := j_h0 h) hG.1 hG.2.1.1 hB hs
  have hG1 := isG_w (B' := B + 1) hG (by omega)
  exact ⟨M', wv_107 (isJ_0 hG.1.1) e, ⟨O, gd_cr hs hG.2.1, sv_gd (isG_4 hG) hG1.2.2 hG1.2.1⟩, s'⟩
theorem g_undo {H' : Nat → rw_} (hG : isG M v cnt u ln tx B H) (hc : 0 < cnt) (hg : gdV (u (cnt - 1)) B H') : ∃ M', Rn X (d + 8) 118 0 [some (.ref 0), none] [] M h = some (.inl (some (.int (zN (cnt - 1)))), M', h) ∧ isG M' (u (cnt - 1)) (cnt - 1) u ln tx B H' ∧ sm M M' 0 70 := by
  obtain ⟨-, -, -, -, -, -, x, y⟩ := hg.1
  obtain ⟨M', e, O, s⟩ := o_undo (X := X) (d := d) (h := j_h0 h) hG.1 hc x.2.2.2.1 y.2.2.2.1
  exact ⟨M', wv_118 (isJ_0 hG.1.1) e, ⟨O, hg, fun k hk => hG.2.2 k (by omega)⟩, s⟩
theorem g_append {k : Nat} (hG : isG M v cnt u ln tx B H) (hk : k < 128) (hl : ln < 100) : ∃ M', Rn X (d + 8) 117 0 [some (.ref 0), some (.int (zN k)), none] [] M h = some (.inl (some (.int (zN (ln + 1)))), M', h) ∧ isG M' v cnt u (ln + 1) (va_up tx ln k) B H ∧ sm M M' 0 70 := by
  obtain ⟨M', e, O, s⟩ := o_append (X := X) (d := d) (h := j_h0 h) hG.1 hk hl
  exact ⟨M', wv_117 (isJ_0 hG.1.1) e, ⟨O, hG.2⟩, s⟩
theorem g_clear (hG : isG M v cnt u ln tx B H) : ∃ M', Rn X (d + 8) 82 0 [some (.ref 0)] [] M h = some (.inl (some (.int (zN ln))), M', h) ∧ isG M' v cnt u 0 tx B H ∧ sm M M' 0 70 := by
  obtain ⟨M', e, O, s⟩ := o_clear (X := X) (d := d + 1) (h := h) hG.1
  exact ⟨M', e, ⟨O, hG.2⟩, s⟩
theorem g_snap {s : Nat} (hG : isG M v cnt u ln tx B H) (hB : B < 1000000000) (hs : s < 2) (hu : v (164 + 21 * s + 1) = 1) : ∃ M', Rn X (d + 8) 106 0 [some (.ref 0), some (.int (zN s)), none] [] M h = some (.inl (some (.int (zN (min (snR v (164 + 21 * s) 168) (snR v (164 + 21 * s) 189) - v 1)))), M', h) ∧ isG M' (snF v (164 + 21 * s)) (svC cnt) (svU u cnt v) ln tx B H ∧ sm M M' 0 70 := by
  obtain ⟨M', e, O, s'⟩ := o_snap (X := X) (d := d) (h := j_h0 h) hG.1 hG.2.1.1 hB hs hu
  exact ⟨M', wv_106 (isJ_0 hG.1.1) e, ⟨O, gd_sn hs hG.2.1, sv_gd (isG_4 hG) hG.2.2 hG.2.1⟩, s'⟩
theorem g_snapx {s : Nat} (hG : isG M v cnt u ln tx B H) (hs : s < 2) (hu : v (164 + 21 * s + 1) = 0) (h : jH) : Rn X (d + 8) 106 0 [some (.ref 0), some (.int (zN s)), none] [] M h = some (.inl (some (.int (zM 11))), M, j_thr h) :=
  wx_106_S (isJ_0 hG.1.1) (x67_d hG.1 hs hu)
theorem g_link {s up : Nat} (hG : isG M v cnt u ln tx B H) (hB : B < 1000000000) (hs : s < 2) (hup : up < 2) (hu : v (164 + 21 * s + 1) ≠ up) : ∃ M', Rn X (d + 8) 108 0 [some (.ref 0), some (.int (zN s)), some (.int (zN up)), none] [] M h = some (.inl (some (.int (zN (lkR v (164 + 21 * s) up 165 + lkR v (164 + 21 * s) up 186)))), M', h) ∧ isG M' (lkR v (164 + 21 * s) up) (svC cnt) (svU u cnt v) ln tx B H ∧ sm M M' 0 70 := by
  obtain ⟨M', e, O, s'⟩ := o_link (X := X) (d := d) (h := j_h0 h) hG.1 hG.2.1.1 hB hs hup hu
  exact ⟨M', wv_108 (isJ_0 hG.1.1) e, ⟨O, gd_lk hs hG.2.1 hup, sv_gd (isG_4 hG) hG.2.2 hG.2.1⟩, s'⟩
theorem g_linkx {s up : Nat} (hG : isG M v cnt u ln tx B H) (hs : s < 2) (hup : up < 2) (hu : v (164 + 21 * s + 1) = up) (h : jH) : Rn X (d + 8) 108 0 [some (.ref 0), some (.int (zN s)), some (.int (zN up)), none] [] M h = some (.inl (some (.int (zM 11))), M, j_thr h) :=
  wx_108_S (isJ_0 hG.1.1) (x69_u hG.1 hs hup hu)
theorem g_digest (hG : isG M v cnt u ln tx B H) (hB : B < 1000000000) : ∃ M', Rn X (d + 9) 85 0 [some (.ref 0), none, none, none] [] M h = some (.inl (some (.long (digI v cnt ln))), M', h) ∧ isG M' v cnt u ln tx B H ∧ sm M M' 0 70 := by
  obtain ⟨F, e⟩ := o_digest (X := X) (d := d) (h := h) hG.1 hG.2.1.1 hB
  exact ⟨_, e, ⟨isO_17 hG.1, hG.2⟩, fun a q => va_up_ne _ _ (by omega)⟩
theorem g_agree (hG : isG M v cnt u ln tx B H) (hB : B < 1000000000) : ∃ M', Rn X (d + 8) 77 0 [some (.ref 0), none, none] [] M h = some (.inl (some (.int (agrI v))), M', h) ∧ isG M' v cnt u ln tx B H ∧ sm M M' 0 70 := by
  obtain ⟨F, e⟩ := o_agree (X := X) (d := d + 1) (h := h) hG.1 hG.2.1.1 hB
  exact ⟨_, e, ⟨isO_17 hG.1, hG.2⟩, fun a q => va_up_ne _ _ (by omega)⟩
theorem g_slower (hG : isG M v cnt u ln tx B H) (hB : B < 1000000000) (h : jH) : Rn X (d + 8) 79 0 [some (.ref 0)] [] M h = some (.inl (some (.int (zN (slowN v)))), M, h) :=
  o_slower (d := d + 1) hG.1 hG.2.1.1 hB
end
