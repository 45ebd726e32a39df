/-! a new order, a spoiled copy, saved states -/
def wrR (v : rw_) (k a b n : Nat) : rw_ := fun j => if j = 2 then v 2 + 1 else if j = 4 + 5 * (v 2 % 32) then k else if j = 4 + 5 * (v 2 % 32) + 1 then a else if j = 4 + 5 * (v 2 % 32) + 2 then (if 2 ≤ k then b else 0) else if j = 4 + 5 * (v 2 % 32) + 3 then n else if j = 4 + 5 * (v 2 % 32) + 4 then 0 else v j
def spR (v : rw_) (p c : Nat) : rw_ := va_up v (4 + 5 * (p % 32) + 4) (od v p 4 ||| 1 <<< c)
theorem or_lt {s c : Nat} (hs : s < 4) (hc : c < 2) : s ||| 1 <<< c < 4 := by
  obtain rfl | rfl | rfl | rfl : s = 0 ∨ s = 1 ∨ s = 2 ∨ s = 3 := by omega
  all_goals (obtain rfl | rfl : c = 0 ∨ c = 1 := by omega)
  all_goals decide
theorem or_sp {s c : Nat} (hs : s < 4) (hc : c < 2) : zN s ||| zN 1 <<< (zN c &&& 31) = zN (s ||| 1 <<< c) := by
  obtain rfl | rfl | rfl | rfl : s = 0 ∨ s = 1 ∨ s = 2 ∨ s = 3 := by omega
  all_goals (obtain rfl | rfl : c = 0 ∨ c = 1 := by omega)
  all_goals decide +kernel
theorem wr_od {v : rw_} {k a b n p : Nat} : od (wrR v k a b n) p 0 = (if p % 32 = v 2 % 32 then k else od v p 0) ∧ od (wrR v k a b n) p 1 = (if p % 32 = v 2 % 32 then a else od v p 1) ∧ od (wrR v k a b n) p 2 = (if p % 32 = v 2 % 32 then (if 2 ≤ k then b else 0) else od v p 2) ∧ od (wrR v k a b n) p 3 = (if p % 32 = v 2 % 32 then n else od v p 3) ∧ od (wrR v k a b n) p 4 = (if p % 32 = v 2 % 32 then 0 else od v p 4) := by
  unfold od wrR
  by_cases c : p % 32 = v 2 % 32
  · rw [if_pos c, if_pos c, if_pos c, if_pos c, if_pos c, c]
    refine ⟨?_, ?_, ?_, ?_, ?_⟩
    · rw [if_neg (by omega), if_pos (by omega)]
    · rw [if_neg (by omega), if_neg (by omega), if_pos (by omega)]
    · rw [if_neg (by omega), if_neg (by omega), if_neg (by omega), if_pos (by omega)]
    · rw [if_neg (by omega), if_neg (by omega), if_neg (by omega), if_neg (by omega), if_pos (by omega)]
    · rw [if_neg (by omega), if_neg (by omega), if_neg (by omega), if_neg (by omega), if_neg (by omega), if_pos (by omega)]
  · rw [if_neg c, if_neg c, if_neg c, if_neg c, if_neg c]
    refine ⟨?_, ?_, ?_, ?_, ?_⟩
    all_goals rw [if_neg (by omega), if_neg (by omega), if_neg (by omega), if_neg (by omega), if_neg (by omega), if_neg (by omega)]
theorem wr_out {v : rw_} {k a b n j : Nat} (hj : j < 2 ∨ j = 3 ∨ 164 ≤ j) : wrR v k a b n j = v j := by
  unfold wrR
  rw [if_neg (by omega), if_neg (by omega), if_neg (by omega), if_neg (by omega), if_neg (by omega), if_neg (by omega)]
theorem sp_od {v : rw_} {p p' c w : Nat} (hw : w < 4) : od (spR v p c) p' w = od v p' w := by
  unfold spR
  show va_up v _ _ (4 + 5 * (p' % 32) + w) = _
  rw [va_up_ne _ _ (by omega)]
  rfl
theorem sp_od4 {v : rw_} {p p' c : Nat} : od (spR v p c) p' 4 = if p' % 32 = p % 32 then od v p 4 ||| 1 <<< c else od v p' 4 := by
  show va_up v _ _ (4 + 5 * (p' % 32) + 4) = _
  by_cases q : p' % 32 = p % 32
  · rw [if_pos q, q, va_up_self]
  · rw [if_neg q, va_up_ne _ _ (by omega)]
    rfl
theorem sp_out {v : rw_} {p c j : Nat} (hj : j < 4 ∨ 164 ≤ j) : spR v p c j = v j := by
  unfold spR
  rw [va_up_ne _ _ (by omega)]
section
variable {X : jX} {d : Nat} {M : jM} {h : jH}
theorem t_add {b k x y n : Nat} {v : rw_} (hb : isRing M b v) (hl : v 2 < 1000000000) (hk : k ≤ 4) :
    ∃ M', Rn X (d + 2) 7 0 [some (.ref b), some (.int (zN k)), some (.int (zN x)), some (.int (zN y)), some (.int (zN n)), none, none] [] M h = some (.inl (some (.int (zN (v 2)))), M', h) ∧ isRing M' b (wrR v k x y n) ∧ sm M M' b (b + 6) := by
  obtain ⟨K0, K1, K2, K3, K4, b0, b1, b2, b3, b4, b5, b6⟩ := hb
  have hs : v 2 % 32 < 32 := Nat.mod_lt _ (by omega)
  have hy : ∃ y', y' = (if 2 ≤ k then y else 0) := ⟨_, rfl⟩
  obtain ⟨y', ey⟩ := hy
  have key : ∃ M', Rn X (d + 2) 7 0 [some (.ref b), some (.int (zN k)), some (.int (zN x)), some (.int (zN y)), some (.int (zN n)), none, none] [] M h = some (.inl (some (.int (zN (v 2)))), M', h) ∧ M' = va_up (va_up (va_up (va_up (va_up (va_up M (b + 1) (.inl (0, 32, .inl (va_up K0 (v 2 % 32) (zN k))))) (b + 2) (.inl (0, 32, .inl (va_up K1 (v 2 % 32) (zN x))))) (b + 3) (.inl (0, 32, .inl (va_up K2 (v 2 % 32) (zN y'))))) (b + 4) (.inl (0, 32, .inl (va_up K3 (v 2 % 32) (zN n))))) (b + 5) (.inl (0, 32, .inl (va_up K4 (v 2 % 32) (zN 0))))) b (.inr (0, [.int (zN (v 0)), .int (zN (v 1)), .int (zN (v 2 + 1)), .ref (b + 1), .ref (b + 2), .ref (b + 3), .ref (b + 4), .ref (b + 5)])) := by
    refine ⟨_, ?_, rfl⟩
    by_cases c : 2 ≤ k
    · rw [if_pos c] at ey
      subst ey
      simp (disch := first | exact cs_0 | exact cs_1 _ | exact cs_2 _ _ | exact cs_3 _ _ _ | exact cs_4 _ _ _ _ | exact j_one_i _ | exact j_one_r _ | exact j_one_n | omega) only [e7_0, e7_1, e7_4, e7_6, e7_8, e7_11, e7_13, e7_14, e7_17, e7_19, e7_20, e7_21, e7_22, e7_25, e7_27, e7_28, e7_29, e7_30, e7_33, e7_35, e7_36, e7_39, e7_42, e7_43, e7_46, e7_47, e7_48, e7_49, e7_52, e7_54, e7_56, e7_57, e7_58, e7_61, e7_63, e7_64, e7_65, e7_66, e7_66r, e7_67, e7_70, e7_71, e7_72, e7_75, e7_77, e1_0, e1_1, e1_3, e1_4, e91_0, e91_1, e91_2, e91_5, e91_6, e91_9, e91_10, q_k_v, q_k_n, q_k_x, q_kc_v, q_kc_n, q_kc_x, q_rc, q_eq_t, q_eq_f, q_eq_nm, q_eq_mn, q_eq_mt, q_eq_mf, q_lt_t, q_lt_f, q_lt_mn, q_lt_nm, q_le_t, q_le_f, q_le_mn, q_le_nm, q_ac_t, q_ac_f, q_dv_n, q_rm_n, q_ld_n, q_lB_n, q_lJ_n, q_st_n, q_sB_n, q_sJ_n, q_sQ_n, q_cp_n, zN_add, zN_mul, zN_sub, zN_subm, zM_sub, zN_and, va_up_self, va_up_ne, j_add0, j_addt, ne_eq, not_false_eq_true, not_true_eq_false, Nat.reduceAdd, Nat.reduceSub, Nat.reduceMul, Nat.reduceMod, Nat.reduceEqDiff, q_g0_0, q_p0_0, q_g0_1, q_p0_1, q_g0_2, q_p0_2, q_g0_3, q_p0_3, q_g0_4, q_p0_4, q_g0_5, q_p0_5, q_g0_6, q_p0_6, q_g0_7, q_p0_7, q_g1_0, q_p1_0, q_g1_1, q_p1_1, q_g1_2, q_p1_2, q_g1_3, q_p1_3, q_g1_4, q_p1_4, q_g1_5, q_p1_5, q_g1_6, q_p1_6, q_g2_0, q_p2_0, q_g2_1, q_p2_1, q_g2_2, q_p2_2, q_g2_3, q_p2_3, q_g3_0, q_p3_0, q_g3_1, q_p3_1, q_g3_2, q_p3_2, q_g3_3, q_p3_3, q_g3_4, q_p3_4, q_g3_5, q_p3_5, q_g3_6, q_p3_6, q_g4_0, q_p4_0, q_g4_1, q_p4_1, q_g4_2, q_p4_2, q_g4_3, q_p4_3, q_g4_4, q_p4_4, q_g5_0, q_p5_0, q_g5_1, q_p5_1, q_g5_2, q_p5_2, q_g5_3, q_p5_3, q_g5_4, q_p5_4, q_g5_5, q_p5_5, q_g5_6, q_p5_6, q_g5_7, q_p5_7, q_g5_8, q_p5_8, q_g5_9, q_p5_9, q_g5_10, q_p5_10, q_g5_11, q_p5_11, q_g5_12, q_p5_12, q_g5_13, q_p5_13, q_g5_14, q_p5_14, q_g5_15, q_p5_15, b0, b1, b2, b3, b4, b5]
    · rw [if_neg c] at ey
      subst ey
      simp (disch := first | exact cs_0 | exact cs_1 _ | exact cs_2 _ _ | exact cs_3 _ _ _ | exact cs_4 _ _ _ _ | exact j_one_i _ | exact j_one_r _ | exact j_one_n | omega) only [e7_0, e7_1, e7_4, e7_6, e7_8, e7_11, e7_13, e7_14, e7_17, e7_19, e7_20, e7_21, e7_22, e7_25, e7_27, e7_28, e7_29, e7_30, e7_33, e7_35, e7_36, e7_39, e7_42, e7_43, e7_46, e7_47, e7_48, e7_49, e7_52, e7_54, e7_56, e7_57, e7_58, e7_61, e7_63, e7_64, e7_65, e7_66, e7_66r, e7_67, e7_70, e7_71, e7_72, e7_75, e7_77, e1_0, e1_1, e1_3, e1_4, e91_0, e91_1, e91_2, e91_5, e91_6, e91_9, e91_10, q_k_v, q_k_n, q_k_x, q_kc_v, q_kc_n, q_kc_x, q_rc, q_eq_t, q_eq_f, q_eq_nm, q_eq_mn, q_eq_mt, q_eq_mf, q_lt_t, q_lt_f, q_lt_mn, q_lt_nm, q_le_t, q_le_f, q_le_mn, q_le_nm, q_ac_t, q_ac_f, q_dv_n, q_rm_n, q_ld_n, q_lB_n, q_lJ_n, q_st_n, q_sB_n, q_sJ_n, q_sQ_n, q_cp_n, zN_add, zN_mul, zN_sub, zN_subm, zM_sub, zN_and, va_up_self, va_up_ne, j_add0, j_addt, ne_eq, not_false_eq_true, not_true_eq_false, Nat.reduceAdd, Nat.reduceSub, Nat.reduceMul, Nat.reduceMod, Nat.reduceEqDiff, q_g0_0, q_p0_0, q_g0_1, q_p0_1, q_g0_2, q_p0_2, q_g0_3, q_p0_3, q_g0_4, q_p0_4, q_g0_5, q_p0_5, q_g0_6, q_p0_6, q_g0_7, q_p0_7, q_g1_0, q_p1_0, q_g1_1, q_p1_1, q_g1_2, q_p1_2, q_g1_3, q_p1_3, q_g1_4, q_p1_4, q_g1_5, q_p1_5, q_g1_6, q_p1_6, q_g2_0, q_p2_0, q_g2_1, q_p2_1, q_g2_2, q_p2_2, q_g2_3, q_p2_3, q_g3_0, q_p3_0, q_g3_1, q_p3_1, q_g3_2, q_p3_2, q_g3_3, q_p3_3, q_g3_4, q_p3_4, q_g3_5, q_p3_5, q_g3_6, q_p3_6, q_g4_0, q_p4_0, q_g4_1, q_p4_1, q_g4_2, q_p4_2, q_g4_3, q_p4_3, q_g4_4, q_p4_4, q_g5_0, q_p5_0, q_g5_1, q_p5_1, q_g5_2, q_p5_2, q_g5_3, q_p5_3, q_g5_4, q_p5_4, q_g5_5, q_p5_5, q_g5_6, q_p5_6, q_g5_7, q_p5_7, q_g5_8, q_p5_8, q_g5_9, q_p5_9, q_g5_10, q_p5_10, q_g5_11, q_p5_11, q_g5_12, q_p5_12, q_g5_13, q_p5_13, q_g5_14, q_p5_14, q_g5_15, q_p5_15, b0, b1, b2, b3, b4, b5]
  obtain ⟨M', e1, e2⟩ := key
  refine ⟨M', e1, ?_, ?_⟩
  · subst e2
    refine ⟨va_up K0 (v 2 % 32) (zN k), va_up K1 (v 2 % 32) (zN x), va_up K2 (v 2 % 32) (zN y'), va_up K3 (v 2 % 32) (zN n), va_up K4 (v 2 % 32) (zN 0), ?_, ?_, ?_, ?_, ?_, ?_, ?_⟩
    · rw [va_up_self, wr_out (by omega), wr_out (by omega)]
      rfl
    · simp (disch := first | exact cs_0 | exact cs_1 _ | exact cs_2 _ _ | exact cs_3 _ _ _ | exact cs_4 _ _ _ _ | exact j_one_i _ | exact j_one_r _ | exact j_one_n | omega) only [va_up_self, va_up_ne]
    · simp (disch := first | exact cs_0 | exact cs_1 _ | exact cs_2 _ _ | exact cs_3 _ _ _ | exact cs_4 _ _ _ _ | exact j_one_i _ | exact j_one_r _ | exact j_one_n | omega) only [va_up_self, va_up_ne]
    · simp (disch := first | exact cs_0 | exact cs_1 _ | exact cs_2 _ _ | exact cs_3 _ _ _ | exact cs_4 _ _ _ _ | exact j_one_i _ | exact j_one_r _ | exact j_one_n | omega) only [va_up_self, va_up_ne]
    · simp (disch := first | exact cs_0 | exact cs_1 _ | exact cs_2 _ _ | exact cs_3 _ _ _ | exact cs_4 _ _ _ _ | exact j_one_i _ | exact j_one_r _ | exact j_one_n | omega) only [va_up_self, va_up_ne]
    · simp (disch := first | exact cs_0 | exact cs_1 _ | exact cs_2 _ _ | exact cs_3 _ _ _ | exact cs_4 _ _ _ _ | exact j_one_i _ | exact j_one_r _ | exact j_one_n | omega) only [va_up_self, va_up_ne]
    · intro p q1 q2
      rw [wr_out (by omega)] at q1
      have q2 : p < v 2 + 1 := q2
      obtain ⟨w0, w1, w2, w3, w4⟩ := wr_od (v := v) (k := k) (a := x) (b := y) (n := n) (p := p)
      rw [w0, w1, w2, w3, w4, ← ey]
      unfold va_up
      by_cases c : p % 32 = v 2 % 32
      · rw [if_pos c, if_pos c, if_pos c, if_pos c, if_pos c, if_pos c, if_pos c, if_pos c, if_pos c, if_pos c]
        exact ⟨rfl, rfl, rfl, rfl, rfl⟩
      · rw [if_neg c, if_neg c, if_neg c, if_neg c, if_neg c, if_neg c, if_neg c, if_neg c, if_neg c, if_neg c]
        have : p ≠ v 2 := fun e => c (by rw [e])
        exact b6 p q1 (by omega)
  · subst e2
    intro a q
    simp (disch := first | exact cs_0 | exact cs_1 _ | exact cs_2 _ _ | exact cs_3 _ _ _ | exact cs_4 _ _ _ _ | exact j_one_i _ | exact j_one_r _ | exact j_one_n | omega) only [va_up_ne]
theorem t_spoil {b p c : Nat} {v : rw_} (hb : isRing M b v) (h1 : v 1 ≤ p) (h2 : p < v 2) (hl : v 2 < 1000000000) (h4 : od v p 4 < 4) (hc : c < 2) :
    ∃ M', Rn X (d + 2) 14 0 [some (.ref b), some (.int (zN p)), some (.int (zN c)), none] [] M h = some (.inl (some (.int (zN (bits (od v p 4 ||| 1 <<< c))))), M', h) ∧ isRing M' b (spR v p c) ∧ sm M M' b (b + 6) := by
  obtain ⟨K0, K1, K2, K3, K4, b0, b1, b2, b3, b4, b5, b6⟩ := hb
  have k4 := (b6 p h1 h2).2.2.2.2
  have ho := or_sp h4 hc
  have hlt := or_lt h4 hc
  obtain ⟨M2, hM2⟩ : ∃ M2, M2 = va_up M (b + 5) (.inl (0, 32, .inl (va_up K4 (p % 32) (zN (od v p 4 ||| 1 <<< c))))) := ⟨_, rfl⟩
  have tb := t_bits (X := X) (d := d + 1) (M := M2) (h := j_h0 h) hlt
  rw [hM2] at tb
  refine ⟨M2, ?_, ?_, ?_⟩
  · rw [hM2]
    simp (disch := first | exact cs_0 | exact cs_1 _ | exact cs_2 _ _ | exact cs_3 _ _ _ | exact cs_4 _ _ _ _ | exact j_one_i _ | exact j_one_r _ | exact j_one_n | omega) only [e14_0, e14_1, e14_4, e14_5, e14_6, e14_9, e14_10, e14_11, e14_12, e14_13, e14_14, e14_15, e14_16, e14_17, e14_18, e14_21, e14_22, e14_23, e14_26, e1_0, e1_1, e1_3, e1_4, q_k_v, q_k_n, q_k_x, q_kc_v, q_kc_n, q_kc_x, q_rc, q_eq_t, q_eq_f, q_eq_nm, q_eq_mn, q_eq_mt, q_eq_mf, q_lt_t, q_lt_f, q_lt_mn, q_lt_nm, q_le_t, q_le_f, q_le_mn, q_le_nm, q_ac_t, q_ac_f, q_dv_n, q_rm_n, q_ld_n, q_lB_n, q_lJ_n, q_st_n, q_sB_n, q_sJ_n, q_sQ_n, q_cp_n, zN_add, zN_mul, zN_sub, zN_subm, zM_sub, zN_and, va_up_self, va_up_ne, j_add0, j_addt, ne_eq, not_false_eq_true, not_true_eq_false, Nat.reduceAdd, Nat.reduceSub, Nat.reduceMul, Nat.reduceMod, Nat.reduceEqDiff, q_g0_0, q_p0_0, q_g0_1, q_p0_1, q_g0_2, q_p0_2, q_g0_3, q_p0_3, q_g0_4, q_p0_4, q_g0_5, q_p0_5, q_g0_6, q_p0_6, q_g0_7, q_p0_7, q_g1_0, q_p1_0, q_g1_1, q_p1_1, q_g1_2, q_p1_2, q_g1_3, q_p1_3, q_g1_4, q_p1_4, q_g1_5, q_p1_5, q_g1_6, q_p1_6, q_g2_0, q_p2_0, q_g2_1, q_p2_1, q_g2_2, q_p2_2, q_g2_3, q_p2_3, q_g3_0, q_p3_0, q_g3_1, q_p3_1, q_g3_2, q_p3_2, q_g3_3, q_p3_3, q_g3_4, q_p3_4, q_g3_5, q_p3_5, q_g3_6, q_p3_6, q_g4_0, q_p4_0, q_g4_1, q_p4_1, q_g4_2, q_p4_2, q_g4_3, q_p4_3, q_g4_4, q_p4_4, q_g5_0, q_p5_0, q_g5_1, q_p5_1, q_g5_2, q_p5_2, q_g5_3, q_p5_3, q_g5_4, q_p5_4, q_g5_5, q_p5_5, q_g5_6, q_p5_6, q_g5_7, q_p5_7, q_g5_8, q_p5_8, q_g5_9, q_p5_9, q_g5_10, q_p5_10, q_g5_11, q_p5_11, q_g5_12, q_p5_12, q_g5_13, q_p5_13, q_g5_14, q_p5_14, q_g5_15, q_p5_15, b0, b5, k4, ho, tb]
  · refine ⟨K0, K1, K2, K3, va_up K4 (p % 32) (zN (od v p 4 ||| 1 <<< c)), ?_, ?_, ?_, ?_, ?_, ?_, ?_⟩
    · rw [hM2, va_up_ne _ _ (by omega), b0, sp_out (by omega), sp_out (by omega), sp_out (by omega)]
    · rw [hM2, va_up_ne _ _ (by omega), b1]
    · rw [hM2, va_up_ne _ _ (by omega), b2]
    · rw [hM2, va_up_ne _ _ (by omega), b3]
    · rw [hM2, va_up_ne _ _ (by omega), b4]
    · rw [hM2, va_up_self]
    · intro p' q1 q2
      rw [sp_out (by omega)] at q1 q2
      obtain ⟨k0, k1, k2, k3, k4'⟩ := b6 p' q1 q2
      rw [sp_od (by omega), sp_od (by omega), sp_od (by omega), sp_od (by omega), sp_od4]
      refine ⟨k0, k1, k2, k3, ?_⟩
      unfold va_up
      split
      · rfl
      · exact k4'
  · intro a q
    rw [hM2, va_up_ne _ _ (by omega)]
end
