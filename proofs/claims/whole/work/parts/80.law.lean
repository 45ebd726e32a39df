/-! the law's loop, and its run -/
theorem isW_w {M : jM} {v : rw_} {cnt ln th B B' : Nat} {u : Nat → rw_} {tx : Nat → Nat} (h : isW M v cnt u ln tx th B) (hB : B ≤ B') : isW M v cnt u ln tx th B' := by
  obtain ⟨h1, h2, h3, h4, h5, h6, h7⟩ := h
  exact ⟨h1, h2, h3, h4, okV_w h5 hB, fun k hk => okV_w (h6 k hk) hB, h7⟩
section
variable {X : jX} {d : Nat} {M : jM} {h : jH} {B i : Nat} {l5 l6 l7 l8 : Option Value} {v : rw_} {cnt ln th : Nat} {u : Nat → rw_} {tx : Nat → Nat}
theorem law_one (hX : X.1 ≤ 2560) (hi : i + 5 ≤ X.1) (hW : isW M v cnt u ln tx th B) (hB : B + 100 < 1000000000) : ∃ M2 e k v' cnt' u' ln' tx' m5 m6 m7 m8, Rn X (d + 12) 188 23 [some (.ref 1000000), some (.ref 0), some (.ref 70), some (.ref 76), some (.int (zN i)), l5, l6, l7, l8] [] M h = Rn X (d + 12) 188 1344 [some (.ref 1000000), some (.ref 0), some (.ref 70), some (.ref 76), some (.int (zN i)), m5, m6, m7, m8] [] M2 (jG e h) ∧ isW M2 v' cnt' u' ln' tx' k (B + 100) := by
  have hn := hW.2.2.2.1
  obtain ⟨c, ec, hc⟩ : ∃ c, X.2 i &&& zN 31 = zN c ∧ c < 32 := ⟨_, i_and31 _, Nat.mod_lt _ (by omega)⟩
  have e0 : Rn X (d + 12) 188 23 [some (.ref 1000000), some (.ref 0), some (.ref 70), some (.ref 76), some (.int (zN i)), l5, l6, l7, l8] [] M h = Rn X (d + 12) 188 39 [some (.ref 1000000), some (.ref 0), some (.ref 70), some (.ref 76), some (.int (zN i)), l5, l6, l7, l8] [.int (zN c)] M h := by
    simp (disch := first | exact cs_0 | exact cs_1 _ | exact cs_2 _ _ | exact cs_3 _ _ _ | exact cs_4 _ _ _ _ | exact j_one_i _ | exact j_one_r _ | exact j_one_n | omega) only [e188_23, e188_25, e188_26, e188_27, e188_28, e188_29, e188_32, e188_33, e188_35, e188_36, e188_38, q_k_v, q_k_n, q_k_x, q_kc_v, q_kc_n, q_kc_x, q_rc, q_eq_t, q_eq_f, q_eq_nm, q_eq_mn, q_eq_mt, q_eq_mf, q_lt_t, q_lt_f, q_lt_mn, q_lt_nm, q_le_t, q_le_f, q_le_mn, q_le_nm, q_ac_t, q_ac_f, q_dv_n, q_rm_n, q_ld_n, q_lB_n, q_lJ_n, q_st_n, q_sB_n, q_sJ_n, q_sQ_n, q_cp_n, zN_add, zN_mul, zN_sub, zN_subm, zM_sub, zN_and, va_up_self, va_up_ne, j_add0, j_addt, ne_eq, not_false_eq_true, not_true_eq_false, Nat.reduceAdd, Nat.reduceSub, Nat.reduceMul, Nat.reduceMod, Nat.reduceEqDiff, q_g0_0, q_p0_0, q_g0_1, q_p0_1, q_g0_2, q_p0_2, q_g0_3, q_p0_3, q_g0_4, q_p0_4, q_g0_5, q_p0_5, q_g0_6, q_p0_6, q_g0_7, q_p0_7, q_g1_0, q_p1_0, q_g1_1, q_p1_1, q_g1_2, q_p1_2, q_g1_3, q_p1_3, q_g1_4, q_p1_4, q_g1_5, q_p1_5, q_g1_6, q_p1_6, q_g2_0, q_p2_0, q_g2_1, q_p2_1, q_g2_2, q_p2_2, q_g2_3, q_p2_3, q_g3_0, q_p3_0, q_g3_1, q_p3_1, q_g3_2, q_p3_2, q_g3_3, q_p3_3, q_g3_4, q_p3_4, q_g3_5, q_p3_5, q_g3_6, q_p3_6, q_g4_0, q_p4_0, q_g4_1, q_p4_1, q_g4_2, q_p4_2, q_g4_3, q_p4_3, q_g4_4, q_p4_4, q_g5_0, q_p5_0, q_g5_1, q_p5_1, q_g5_2, q_p5_2, q_g5_3, q_p5_3, q_g5_4, q_p5_4, q_g5_5, q_p5_5, q_g5_6, q_p5_6, q_g5_7, q_p5_7, q_g5_8, q_p5_8, q_g5_9, q_p5_9, q_g5_10, q_p5_10, q_g5_11, q_p5_11, q_g5_12, q_p5_12, q_g5_13, q_p5_13, q_g5_14, q_p5_14, q_g5_15, q_p5_15, hn, q_ld_x, ec]
  rw [e0]
  by_cases c24 : 23 < c
  · refine ⟨M, false, th, v, cnt, u, ln, tx, l5, l6, l7, l8, ?_, isW_w hW (by omega)⟩
    rw [e188_39_h (by omega) c24]
    rfl
  · obtain rfl | rfl | rfl | rfl | rfl | rfl | rfl | rfl | rfl | rfl | rfl | rfl | rfl | rfl | rfl | rfl | rfl | rfl | rfl | rfl | rfl | rfl | rfl | rfl : c = 0 ∨ c = 1 ∨ c = 2 ∨ c = 3 ∨ c = 4 ∨ c = 5 ∨ c = 6 ∨ c = 7 ∨ c = 8 ∨ c = 9 ∨ c = 10 ∨ c = 11 ∨ c = 12 ∨ c = 13 ∨ c = 14 ∨ c = 15 ∨ c = 16 ∨ c = 17 ∨ c = 18 ∨ c = 19 ∨ c = 20 ∨ c = 21 ∨ c = 22 ∨ c = 23 := by omega
    · rw [e188_39_0]
      exact la_0 hX hi hn (one_0 hW hB)
    · rw [e188_39_1]
      exact la_1 hX hi hn (one_1 hW hB)
    · rw [e188_39_2]
      exact la_2 hX hi hn (one_2 hW hB)
    · rw [e188_39_3]
      obtain ⟨b, S⟩ := one_3 (X := X) (d := d) (h := h) hW hB
      exact la_3 S
    · rw [e188_39_4]
      exact la_4 hX hi hn (one_4 hW hB)
    · rw [e188_39_5]
      exact la_5 hX hi hn (one_5 hW hB)
    · rw [e188_39_6]
      exact la_6 hX hi hn (one_6 hW hB)
    · rw [e188_39_7]
      by_cases q : X.2 (i + 2) = zN 0
      · exact la_7 hX hi hn (by rw [if_pos q]; exact one_7 hW hB (by omega))
      · exact la_7 hX hi hn (by rw [if_neg q]; exact one_7 hW hB (by omega))
    · rw [e188_39_8]
      exact la_8 hX hi hn (one_8 hW hB)
    · rw [e188_39_9]
      exact la_9 hX hi hn (one_9 hW hB)
    · rw [e188_39_10]
      exact la_10 hX hi hn (one_10 hW hB)
    · rw [e188_39_11]
      exact la_11 hX hi hn (one_11 hW hB)
    · rw [e188_39_12]
      exact la_12 hX hi hn (one_12 hW hB)
    · rw [e188_39_13]
      exact la_13 hX hi hn (one_13 hW hB)
    · rw [e188_39_14]
      exact la_14 hX hi hn (one_14 hW hB)
    · rw [e188_39_15]
      obtain ⟨b, S⟩ := one_15 (X := X) (d := d) (h := h) hW hB
      exact la_15 S
    · rw [e188_39_16]
      exact la_16 hX hi hn (one_16 hW hB)
    · rw [e188_39_17]
      obtain ⟨b, S⟩ := one_17 (X := X) (d := d) (h := h) hW hB
      exact la_17 S
    · rw [e188_39_18]
      obtain ⟨b, S, hb⟩ := one_18 (X := X) (d := d) (h := h) hW hB
      exact la_18 hb S
    · rw [e188_39_19]
      exact la_19 hX hi hn (one_19 hW hB)
    · rw [e188_39_20]
      obtain ⟨b, S⟩ := one_20 (X := X) (d := d) (h := h) hW
      exact la_20 S
    · rw [e188_39_21]
      obtain ⟨b, S⟩ := one_21 (X := X) (d := d) (h := h) hW hB
      exact la_21 S
    · rw [e188_39_22]
      exact la_22 hX hi hn (one_22 hW hB)
    · rw [e188_39_23]
      obtain ⟨b, S⟩ := one_23 (X := X) (d := d) (h := h) hW hB
      exact la_23 S
theorem law_out (hX : X.1 ≤ 2560) (hi : X.1 < i + 5) (h2 : i < 100000) : Rn X (d + 12) 188 23 [some (.ref 1000000), some (.ref 0), some (.ref 70), some (.ref 76), some (.int (zN i)), l5, l6, l7, l8] [] M h = some (.inl (some (.int (zN 1))), M, h) := by
  by_cases q : X.1 < 5
  · simp (disch := first | exact cs_0 | exact cs_1 _ | exact cs_2 _ _ | exact cs_3 _ _ _ | exact cs_4 _ _ _ _ | exact j_one_i _ | exact j_one_r _ | exact j_one_n | omega) only [e188_23, e188_25, e188_26, e188_27, e188_28, e188_29, e188_1344, e188_1347, e188_1350, e188_1351, q_k_v, q_k_n, q_k_x, q_kc_v, q_kc_n, q_kc_x, q_rc, q_eq_t, q_eq_f, q_eq_nm, q_eq_mn, q_eq_mt, q_eq_mf, q_lt_t, q_lt_f, q_lt_mn, q_lt_nm, q_le_t, q_le_f, q_le_mn, q_le_nm, q_ac_t, q_ac_f, q_dv_n, q_rm_n, q_ld_n, q_lB_n, q_lJ_n, q_st_n, q_sB_n, q_sJ_n, q_sQ_n, q_cp_n, zN_add, zN_mul, zN_sub, zN_subm, zM_sub, zN_and, va_up_self, va_up_ne, j_add0, j_addt, ne_eq, not_false_eq_true, not_true_eq_false, Nat.reduceAdd, Nat.reduceSub, Nat.reduceMul, Nat.reduceMod, Nat.reduceEqDiff, q_g0_0, q_p0_0, q_g0_1, q_p0_1, q_g0_2, q_p0_2, q_g0_3, q_p0_3, q_g0_4, q_p0_4, q_g0_5, q_p0_5, q_g0_6, q_p0_6, q_g0_7, q_p0_7, q_g1_0, q_p1_0, q_g1_1, q_p1_1, q_g1_2, q_p1_2, q_g1_3, q_p1_3, q_g1_4, q_p1_4, q_g1_5, q_p1_5, q_g1_6, q_p1_6, q_g2_0, q_p2_0, q_g2_1, q_p2_1, q_g2_2, q_p2_2, q_g2_3, q_p2_3, q_g3_0, q_p3_0, q_g3_1, q_p3_1, q_g3_2, q_p3_2, q_g3_3, q_p3_3, q_g3_4, q_p3_4, q_g3_5, q_p3_5, q_g3_6, q_p3_6, q_g4_0, q_p4_0, q_g4_1, q_p4_1, q_g4_2, q_p4_2, q_g4_3, q_p4_3, q_g4_4, q_p4_4, q_g5_0, q_p5_0, q_g5_1, q_p5_1, q_g5_2, q_p5_2, q_g5_3, q_p5_3, q_g5_4, q_p5_4, q_g5_5, q_p5_5, q_g5_6, q_p5_6, q_g5_7, q_p5_7, q_g5_8, q_p5_8, q_g5_9, q_p5_9, q_g5_10, q_p5_10, q_g5_11, q_p5_11, q_g5_12, q_p5_12, q_g5_13, q_p5_13, q_g5_14, q_p5_14, q_g5_15, q_p5_15]
  · simp (disch := first | exact cs_0 | exact cs_1 _ | exact cs_2 _ _ | exact cs_3 _ _ _ | exact cs_4 _ _ _ _ | exact j_one_i _ | exact j_one_r _ | exact j_one_n | omega) only [e188_23, e188_25, e188_26, e188_27, e188_28, e188_29, e188_1344, e188_1347, e188_1350, e188_1351, q_k_v, q_k_n, q_k_x, q_kc_v, q_kc_n, q_kc_x, q_rc, q_eq_t, q_eq_f, q_eq_nm, q_eq_mn, q_eq_mt, q_eq_mf, q_lt_t, q_lt_f, q_lt_mn, q_lt_nm, q_le_t, q_le_f, q_le_mn, q_le_nm, q_ac_t, q_ac_f, q_dv_n, q_rm_n, q_ld_n, q_lB_n, q_lJ_n, q_st_n, q_sB_n, q_sJ_n, q_sQ_n, q_cp_n, zN_add, zN_mul, zN_sub, zN_subm, zM_sub, zN_and, va_up_self, va_up_ne, j_add0, j_addt, ne_eq, not_false_eq_true, not_true_eq_false, Nat.reduceAdd, Nat.reduceSub, Nat.reduceMul, Nat.reduceMod, Nat.reduceEqDiff, q_g0_0, q_p0_0, q_g0_1, q_p0_1, q_g0_2, q_p0_2, q_g0_3, q_p0_3, q_g0_4, q_p0_4, q_g0_5, q_p0_5, q_g0_6, q_p0_6, q_g0_7, q_p0_7, q_g1_0, q_p1_0, q_g1_1, q_p1_1, q_g1_2, q_p1_2, q_g1_3, q_p1_3, q_g1_4, q_p1_4, q_g1_5, q_p1_5, q_g1_6, q_p1_6, q_g2_0, q_p2_0, q_g2_1, q_p2_1, q_g2_2, q_p2_2, q_g2_3, q_p2_3, q_g3_0, q_p3_0, q_g3_1, q_p3_1, q_g3_2, q_p3_2, q_g3_3, q_p3_3, q_g3_4, q_p3_4, q_g3_5, q_p3_5, q_g3_6, q_p3_6, q_g4_0, q_p4_0, q_g4_1, q_p4_1, q_g4_2, q_p4_2, q_g4_3, q_p4_3, q_g4_4, q_p4_4, q_g5_0, q_p5_0, q_g5_1, q_p5_1, q_g5_2, q_p5_2, q_g5_3, q_p5_3, q_g5_4, q_p5_4, q_g5_5, q_p5_5, q_g5_6, q_p5_6, q_g5_7, q_p5_7, q_g5_8, q_p5_8, q_g5_9, q_p5_9, q_g5_10, q_p5_10, q_g5_11, q_p5_11, q_g5_12, q_p5_12, q_g5_13, q_p5_13, q_g5_14, q_p5_14, q_g5_15, q_p5_15]
theorem law_loop (hX : X.1 ≤ 2560) : ∀ n i B (M : jM) (h : jH) (l5 l6 l7 l8 : Option Value) (v : rw_) (cnt : Nat) (u : Nat → rw_) (ln : Nat) (tx : Nat → Nat) (th : Nat), X.1 ≤ i + 5 * n → i < 90000 → isW M v cnt u ln tx th B → B + 100 * n < 1000000000 →
    ∃ M' h', Rn X (d + 12) 188 23 [some (.ref 1000000), some (.ref 0), some (.ref 70), some (.ref 76), some (.int (zN i)), l5, l6, l7, l8] [] M h = some (.inl (some (.int (zN 1))), M', h') ∧ h'.2.2.1 ≤ h.2.2.1 + n ∧ h'.2.2.2 ≤ h.2.2.2 + 6 * n := by
  intro n
  induction n with
  | zero =>
    intro i B M h l5 l6 l7 l8 v cnt u ln tx th hn hi hW hB
    exact ⟨M, h, law_out hX (by omega) (by omega), by omega, by omega⟩
  | succ n ih =>
    intro i B M h l5 l6 l7 l8 v cnt u ln tx th hn hi hW hB
    by_cases q : i + 5 ≤ X.1
    · obtain ⟨M2, e, k, v', cnt', u', ln', tx', m5, m6, m7, m8, e1, W1⟩ := law_one (X := X) (d := d) (h := h) (l5 := l5) (l6 := l6) (l7 := l7) (l8 := l8) hX q hW (by omega)
      obtain ⟨M3, h3, e2, b1, b2⟩ := ih (i + 5) (B + 100) M2 (jG e h) m5 m6 m7 m8 v' cnt' u' ln' tx' k (by omega) (by omega) W1 (by omega)
      have g1 : (jG e h).2.2.1 ≤ h.2.2.1 + 1 ∧ (jG e h).2.2.2 ≤ h.2.2.2 + 6 := by
        cases e
        · exact ⟨Nat.le_add_right _ _, Nat.le_add_right _ _⟩
        · exact ⟨Nat.le_refl _, Nat.le_refl _⟩
      refine ⟨M3, h3, ?_, by omega, by omega⟩
      rw [e1]
      simp (disch := first | exact cs_0 | exact cs_1 _ | exact cs_2 _ _ | exact cs_3 _ _ _ | exact cs_4 _ _ _ _ | exact j_one_i _ | exact j_one_r _ | exact j_one_n | omega) only [e188_1344, e188_1347, q_k_v, q_k_n, q_k_x, q_kc_v, q_kc_n, q_kc_x, q_rc, q_eq_t, q_eq_f, q_eq_nm, q_eq_mn, q_eq_mt, q_eq_mf, q_lt_t, q_lt_f, q_lt_mn, q_lt_nm, q_le_t, q_le_f, q_le_mn, q_le_nm, q_ac_t, q_ac_f, q_dv_n, q_rm_n, q_ld_n, q_lB_n, q_lJ_n, q_st_n, q_sB_n, q_sJ_n, q_sQ_n, q_cp_n, zN_add, zN_mul, zN_sub, zN_subm, zM_sub, zN_and, va_up_self, va_up_ne, j_add0, j_addt, ne_eq, not_false_eq_true, not_true_eq_false, Nat.reduceAdd, Nat.reduceSub, Nat.reduceMul, Nat.reduceMod, Nat.reduceEqDiff, q_g0_0, q_p0_0, q_g0_1, q_p0_1, q_g0_2, q_p0_2, q_g0_3, q_p0_3, q_g0_4, q_p0_4, q_g0_5, q_p0_5, q_g0_6, q_p0_6, q_g0_7, q_p0_7, q_g1_0, q_p1_0, q_g1_1, q_p1_1, q_g1_2, q_p1_2, q_g1_3, q_p1_3, q_g1_4, q_p1_4, q_g1_5, q_p1_5, q_g1_6, q_p1_6, q_g2_0, q_p2_0, q_g2_1, q_p2_1, q_g2_2, q_p2_2, q_g2_3, q_p2_3, q_g3_0, q_p3_0, q_g3_1, q_p3_1, q_g3_2, q_p3_2, q_g3_3, q_p3_3, q_g3_4, q_p3_4, q_g3_5, q_p3_5, q_g3_6, q_p3_6, q_g4_0, q_p4_0, q_g4_1, q_p4_1, q_g4_2, q_p4_2, q_g4_3, q_p4_3, q_g4_4, q_p4_4, q_g5_0, q_p5_0, q_g5_1, q_p5_1, q_g5_2, q_p5_2, q_g5_3, q_p5_3, q_g5_4, q_p5_4, q_g5_5, q_p5_5, q_g5_6, q_p5_6, q_g5_7, q_p5_7, q_g5_8, q_p5_8, q_g5_9, q_p5_9, q_g5_10, q_p5_10, q_g5_11, q_p5_11, q_g5_12, q_p5_12, q_g5_13, q_p5_13, q_g5_14, q_p5_14, q_g5_15, q_p5_15, e2]
    · exact ⟨M, h, law_out hX (by omega) (by omega), by omega, by omega⟩
end
theorem law_Rn (X : jX) (hX : X.1 ≤ 2560) : ∃ r : jR, Rn X 12 188 0 [some (.ref 1000000), none, none, none, none, none, none, none, none] [] (fun _ => j_nil) (0, true, 0, 0) = some r ∧ r.1 = .inl (some (.int (zN 1))) ∧ r.2.2.2.2.1 ≤ 601024 ∧ r.2.2.2.2.2 ≤ 7293034 := by
  obtain ⟨M0, hM0⟩ : ∃ M0, M0 = va_up (fun _ => j_nil) 0 (.inr (4, j_df 4)) := ⟨_, rfl⟩
  have n0 : M0 0 = .inr (4, j_df 4) := by rw [hM0, va_up_self]
  obtain ⟨M1, e1, O1, s1⟩ := t_objNew (X := X) (d := 6) (c := 0) (z := 0) n0
  obtain ⟨M2, hM2⟩ : ∃ M2, M2 = va_up M1 70 (.inr (5, j_df 5)) := ⟨_, rfl⟩
  have n2 : M2 70 = .inr (5, j_df 5) := by rw [hM2, va_up_self]
  obtain ⟨M3, e3, J3, s3⟩ := t_modNew (X := X) (d := 9) (c := 0) (z := 0) n2
  obtain ⟨M4, hM4⟩ : ∃ M4, M4 = va_up M3 76 (.inl (3, 1, .inr (.inl (fun _ => 0)))) := ⟨_, rfl⟩
  have W4 : isW M4 (fresh 8) 0 (fun _ => fresh 8) 0 (fun _ => 0) 0 0 := by
    refine ⟨fr_O O1 fun a l => ?_, fr_M J3 fun a l1 l2 => ?_, ⟨_, by rw [hM4, va_up_self]⟩, ?_, ok_fresh (by omega) (by omega), fun k hk => absurd hk (Nat.not_lt_zero k), fun j hj => absurd hj (Nat.not_lt_zero j)⟩
    · rw [hM4, va_up_ne _ _ (by omega), s3 a (by omega), hM2, va_up_ne _ _ (by omega)]
    · rw [hM4, va_up_ne _ _ (by omega)]
    · rw [hM4, va_up_ne _ _ (by omega), s3 _ (by omega), hM2, va_up_ne _ _ (by omega), s1 _ (by omega), hM0, va_up_ne _ _ (by omega)]
  obtain ⟨M5, h5, e5, b1, b2⟩ := law_loop (X := X) (d := 0) hX 512 0 0 M4 (77, true, 77, 2575) none none none none _ _ _ _ _ _ (by omega) (by omega) W4 (by omega)
  have b1 : h5.2.2.1 ≤ 77 + 512 := b1
  have b2 : h5.2.2.2 ≤ 2575 + 6 * 512 := b2
  refine ⟨(.inl (some (.int (zN 1))), M5, h5), ?_, rfl, by show h5.2.2.1 ≤ _; omega, by show h5.2.2.2 ≤ _; omega⟩
  have e1 : Rn X 11 61 0 [some (.ref 0), none] [] M0 (1, true, 0, 0) = some (.inl none, M1, (70, true, 69, 1209)) := e1
  have e3 : Rn X 11 100 0 [some (.ref 70)] [] M2 (71, true, 0, 0) = some (.inl none, M3, (76, true, 5, 1344)) := e3
  have e5 : Rn X 12 188 23 [some (.ref 1000000), some (.ref 0), some (.ref 70), some (.ref 76), some (.int (zN 0)), none, none, none, none] [] M4 (77, true, 77, 2575) = _ := e5
  have f4 : j_nf 4 = 5 := rfl
  have f5 : j_nf 5 = 16 := rfl
  have hM0' := hM0.symm
  have hM2' := hM2.symm
  have hM4' := hM4.symm
  simp (disch := first | exact cs_0 | exact cs_1 _ | exact cs_2 _ _ | exact cs_3 _ _ _ | exact cs_4 _ _ _ _ | exact j_one_i _ | exact j_one_r _ | exact j_one_n | omega) only [e188_0, e188_3, e188_3r, e188_4, e188_7, e188_8, e188_11, e188_11r, e188_12, e188_15, e188_16, e188_17, e188_19, e188_20, e188_21, q_k_v, q_k_n, q_k_x, q_kc_v, q_kc_n, q_kc_x, q_rc, q_eq_t, q_eq_f, q_eq_nm, q_eq_mn, q_eq_mt, q_eq_mf, q_lt_t, q_lt_f, q_lt_mn, q_lt_nm, q_le_t, q_le_f, q_le_mn, q_le_nm, q_ac_t, q_ac_f, q_dv_n, q_rm_n, q_ld_n, q_lB_n, q_lJ_n, q_st_n, q_sB_n, q_sJ_n, q_sQ_n, q_cp_n, zN_add, zN_mul, zN_sub, zN_subm, zM_sub, zN_and, va_up_self, va_up_ne, j_add0, j_addt, ne_eq, not_false_eq_true, not_true_eq_false, Nat.reduceAdd, Nat.reduceSub, Nat.reduceMul, Nat.reduceMod, Nat.reduceEqDiff, q_g0_0, q_p0_0, q_g0_1, q_p0_1, q_g0_2, q_p0_2, q_g0_3, q_p0_3, q_g0_4, q_p0_4, q_g0_5, q_p0_5, q_g0_6, q_p0_6, q_g0_7, q_p0_7, q_g1_0, q_p1_0, q_g1_1, q_p1_1, q_g1_2, q_p1_2, q_g1_3, q_p1_3, q_g1_4, q_p1_4, q_g1_5, q_p1_5, q_g1_6, q_p1_6, q_g2_0, q_p2_0, q_g2_1, q_p2_1, q_g2_2, q_p2_2, q_g2_3, q_p2_3, q_g3_0, q_p3_0, q_g3_1, q_p3_1, q_g3_2, q_p3_2, q_g3_3, q_p3_3, q_g3_4, q_p3_4, q_g3_5, q_p3_5, q_g3_6, q_p3_6, q_g4_0, q_p4_0, q_g4_1, q_p4_1, q_g4_2, q_p4_2, q_g4_3, q_p4_3, q_g4_4, q_p4_4, q_g5_0, q_p5_0, q_g5_1, q_p5_1, q_g5_2, q_p5_2, q_g5_3, q_p5_3, q_g5_4, q_p5_4, q_g5_5, q_p5_5, q_g5_6, q_p5_6, q_g5_7, q_p5_7, q_g5_8, q_p5_8, q_g5_9, q_p5_9, q_g5_10, q_p5_10, q_g5_11, q_p5_11, q_g5_12, q_p5_12, q_g5_13, q_p5_13, q_g5_14, q_p5_14, q_g5_15, q_p5_15, hM0', n0, f4, f5, j_addp, j_h0p, e1, hM2', n2, e3, hM4', e5]
/-- the law's run -/
theorem law_runs (L : Nat) (xs : Nat → Int32) (hL : L ≤ 2560) : ∃ (N : Nat) (r : jR), j_run (L, xs) N 12 188 0 (j_ent 9 [.ref 1000000]) [] (fun _ => j_nil) (0, true, 0, 0) = some r ∧ r.1 = .inl (some (.int 1)) ∧ r.2.2.2.2.1 ≤ 601024 ∧ r.2.2.2.2.2 ≤ 7293034 := by
  obtain ⟨r, e, h1, h2, h3⟩ := law_Rn (L, xs) hL
  obtain ⟨N, e2⟩ := (Rn_iff j_run_mono).mp e
  exact ⟨N, r, e2, h1, h2, h3⟩
