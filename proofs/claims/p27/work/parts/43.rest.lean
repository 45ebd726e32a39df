/-! the class's other calls, and what it throws -/
def slowN (v : rw_) : Nat := if v 168 = v 189 then 2 else if v 168 < v 189 then 0 else 1
/-- the room there would be -/
def roomI (v : rw_) (s : Nat) : Int32 := zN (v 0) - (zN (v 2) - zN (min (v (164 + 21 * s)) (v (164 + 21 * (1 - s) + 4))))
section
variable {X : jX} {d : Nat} {M : jM} {h : jH} {v : rw_} {cnt ln B : Nat} {u : Nat → rw_} {tx : Nat → Nat}
theorem o_slower (hO : isO M v cnt u ln tx) (hv : okV v B) (hB : B < 1000000000) :
    Rn X (d + 7) 79 0 [some (.ref 0)] [] M h = some (.inl (some (.int (zN (slowN v)))), M, h) := by
  obtain ⟨q0, q1, q2, q3, q4, q5, q6, q7⟩ := id hv
  obtain ⟨x1, x2, x3, -⟩ := q6
  obtain ⟨y1, y2, y3, -⟩ := q7
  have x2 : v 168 ≤ v 164 := x2
  have y2 : v 189 ≤ v 185 := y2
  have a0 := isJ_0 hO.1
  have hst := isJ_st hO.1
  have a1 := isSt_1 hst
  obtain ⟨F, G, c1, -⟩ := isSt_8 hst
  obtain ⟨F', G', c2, -⟩ := isSt_11 hst
  unfold slowN
  by_cases c : v 168 = v 189
  · rw [if_pos c]
    simp (disch := first | exact cs_0 | exact cs_1 _ | exact cs_2 _ _ | exact cs_3 _ _ _ | exact cs_4 _ _ _ _ | exact j_one_i _ | exact j_one_r _ | exact j_one_n | omega) only [e79_0, e79_1, e79_4, e79_7, e79_10, e79_11, e79_14, e79_17, e79_20, e79_23, e79_24, e79_25, e79_26, e79_29, e79_32, e79_35, e79_36, e79_39, e79_42, e79_45, e79_48, e79_49, e79_52, e79_53, q_k_v, q_k_n, q_k_x, q_kc_v, q_kc_n, q_kc_x, q_rc, q_eq_t, q_eq_f, q_eq_nm, q_eq_mn, q_eq_mt, q_eq_mf, q_lt_t, q_lt_f, q_lt_mn, q_lt_nm, q_le_t, q_le_f, q_le_mn, q_le_nm, q_ac_t, q_ac_f, q_dv_n, q_rm_n, q_ld_n, q_lB_n, q_lJ_n, q_st_n, q_sB_n, q_sJ_n, q_sQ_n, q_cp_n, zN_add, zN_mul, zN_sub, zN_subm, zM_sub, zN_and, va_up_self, va_up_ne, j_add0, j_addt, ne_eq, not_false_eq_true, not_true_eq_false, Nat.reduceAdd, Nat.reduceSub, Nat.reduceMul, Nat.reduceMod, Nat.reduceEqDiff, q_g0_0, q_p0_0, q_g0_1, q_p0_1, q_g0_2, q_p0_2, q_g0_3, q_p0_3, q_g0_4, q_p0_4, q_g0_5, q_p0_5, q_g0_6, q_p0_6, q_g0_7, q_p0_7, q_g1_0, q_p1_0, q_g1_1, q_p1_1, q_g1_2, q_p1_2, q_g1_3, q_p1_3, q_g1_4, q_p1_4, q_g1_5, q_p1_5, q_g1_6, q_p1_6, q_g2_0, q_p2_0, q_g2_1, q_p2_1, q_g2_2, q_p2_2, q_g2_3, q_p2_3, q_g3_0, q_p3_0, q_g3_1, q_p3_1, q_g3_2, q_p3_2, q_g3_3, q_p3_3, q_g3_4, q_p3_4, q_g3_5, q_p3_5, q_g3_6, q_p3_6, q_g4_0, q_p4_0, q_g4_1, q_p4_1, q_g4_2, q_p4_2, q_g4_3, q_p4_3, q_g4_4, q_p4_4, q_g5_0, q_p5_0, q_g5_1, q_p5_1, q_g5_2, q_p5_2, q_g5_3, q_p5_3, q_g5_4, q_p5_4, q_g5_5, q_p5_5, q_g5_6, q_p5_6, q_g5_7, q_p5_7, q_g5_8, q_p5_8, q_g5_9, q_p5_9, q_g5_10, q_p5_10, q_g5_11, q_p5_11, q_g5_12, q_p5_12, q_g5_13, q_p5_13, q_g5_14, q_p5_14, q_g5_15, q_p5_15, a0, a1, c1, c2]
  · rw [if_neg c]
    by_cases c' : v 168 < v 189
    · rw [if_pos c']
      simp (disch := first | exact cs_0 | exact cs_1 _ | exact cs_2 _ _ | exact cs_3 _ _ _ | exact cs_4 _ _ _ _ | exact j_one_i _ | exact j_one_r _ | exact j_one_n | omega) only [e79_0, e79_1, e79_4, e79_7, e79_10, e79_11, e79_14, e79_17, e79_20, e79_23, e79_24, e79_25, e79_26, e79_29, e79_32, e79_35, e79_36, e79_39, e79_42, e79_45, e79_48, e79_49, e79_52, e79_53, q_k_v, q_k_n, q_k_x, q_kc_v, q_kc_n, q_kc_x, q_rc, q_eq_t, q_eq_f, q_eq_nm, q_eq_mn, q_eq_mt, q_eq_mf, q_lt_t, q_lt_f, q_lt_mn, q_lt_nm, q_le_t, q_le_f, q_le_mn, q_le_nm, q_ac_t, q_ac_f, q_dv_n, q_rm_n, q_ld_n, q_lB_n, q_lJ_n, q_st_n, q_sB_n, q_sJ_n, q_sQ_n, q_cp_n, zN_add, zN_mul, zN_sub, zN_subm, zM_sub, zN_and, va_up_self, va_up_ne, j_add0, j_addt, ne_eq, not_false_eq_true, not_true_eq_false, Nat.reduceAdd, Nat.reduceSub, Nat.reduceMul, Nat.reduceMod, Nat.reduceEqDiff, q_g0_0, q_p0_0, q_g0_1, q_p0_1, q_g0_2, q_p0_2, q_g0_3, q_p0_3, q_g0_4, q_p0_4, q_g0_5, q_p0_5, q_g0_6, q_p0_6, q_g0_7, q_p0_7, q_g1_0, q_p1_0, q_g1_1, q_p1_1, q_g1_2, q_p1_2, q_g1_3, q_p1_3, q_g1_4, q_p1_4, q_g1_5, q_p1_5, q_g1_6, q_p1_6, q_g2_0, q_p2_0, q_g2_1, q_p2_1, q_g2_2, q_p2_2, q_g2_3, q_p2_3, q_g3_0, q_p3_0, q_g3_1, q_p3_1, q_g3_2, q_p3_2, q_g3_3, q_p3_3, q_g3_4, q_p3_4, q_g3_5, q_p3_5, q_g3_6, q_p3_6, q_g4_0, q_p4_0, q_g4_1, q_p4_1, q_g4_2, q_p4_2, q_g4_3, q_p4_3, q_g4_4, q_p4_4, q_g5_0, q_p5_0, q_g5_1, q_p5_1, q_g5_2, q_p5_2, q_g5_3, q_p5_3, q_g5_4, q_p5_4, q_g5_5, q_p5_5, q_g5_6, q_p5_6, q_g5_7, q_p5_7, q_g5_8, q_p5_8, q_g5_9, q_p5_9, q_g5_10, q_p5_10, q_g5_11, q_p5_11, q_g5_12, q_p5_12, q_g5_13, q_p5_13, q_g5_14, q_p5_14, q_g5_15, q_p5_15, a0, a1, c1, c2]
    · rw [if_neg c']
      simp (disch := first | exact cs_0 | exact cs_1 _ | exact cs_2 _ _ | exact cs_3 _ _ _ | exact cs_4 _ _ _ _ | exact j_one_i _ | exact j_one_r _ | exact j_one_n | omega) only [e79_0, e79_1, e79_4, e79_7, e79_10, e79_11, e79_14, e79_17, e79_20, e79_23, e79_24, e79_25, e79_26, e79_29, e79_32, e79_35, e79_36, e79_39, e79_42, e79_45, e79_48, e79_49, e79_52, e79_53, q_k_v, q_k_n, q_k_x, q_kc_v, q_kc_n, q_kc_x, q_rc, q_eq_t, q_eq_f, q_eq_nm, q_eq_mn, q_eq_mt, q_eq_mf, q_lt_t, q_lt_f, q_lt_mn, q_lt_nm, q_le_t, q_le_f, q_le_mn, q_le_nm, q_ac_t, q_ac_f, q_dv_n, q_rm_n, q_ld_n, q_lB_n, q_lJ_n, q_st_n, q_sB_n, q_sJ_n, q_sQ_n, q_cp_n, zN_add, zN_mul, zN_sub, zN_subm, zM_sub, zN_and, va_up_self, va_up_ne, j_add0, j_addt, ne_eq, not_false_eq_true, not_true_eq_false, Nat.reduceAdd, Nat.reduceSub, Nat.reduceMul, Nat.reduceMod, Nat.reduceEqDiff, q_g0_0, q_p0_0, q_g0_1, q_p0_1, q_g0_2, q_p0_2, q_g0_3, q_p0_3, q_g0_4, q_p0_4, q_g0_5, q_p0_5, q_g0_6, q_p0_6, q_g0_7, q_p0_7, q_g1_0, q_p1_0, q_g1_1, q_p1_1, q_g1_2, q_p1_2, q_g1_3, q_p1_3, q_g1_4, q_p1_4, q_g1_5, q_p1_5, q_g1_6, q_p1_6, q_g2_0, q_p2_0, q_g2_1, q_p2_1, q_g2_2, q_p2_2, q_g2_3, q_p2_3, q_g3_0, q_p3_0, q_g3_1, q_p3_1, q_g3_2, q_p3_2, q_g3_3, q_p3_3, q_g3_4, q_p3_4, q_g3_5, q_p3_5, q_g3_6, q_p3_6, q_g4_0, q_p4_0, q_g4_1, q_p4_1, q_g4_2, q_p4_2, q_g4_3, q_p4_3, q_g4_4, q_p4_4, q_g5_0, q_p5_0, q_g5_1, q_p5_1, q_g5_2, q_p5_2, q_g5_3, q_p5_3, q_g5_4, q_p5_4, q_g5_5, q_p5_5, q_g5_6, q_p5_6, q_g5_7, q_p5_7, q_g5_8, q_p5_8, q_g5_9, q_p5_9, q_g5_10, q_p5_10, q_g5_11, q_p5_11, q_g5_12, q_p5_12, q_g5_13, q_p5_13, q_g5_14, q_p5_14, q_g5_15, q_p5_15, a0, a1, c1, c2]
theorem o_room {s : Nat} (hO : isO M v cnt u ln tx) (hv : okV v B) (hB : B < 1000000000) (hs : s < 2) :
    Rn X (d + 7) 78 0 [some (.ref 0), some (.int (zN s)), none, none] [] M h = some (.inl (some (.int (roomI v s))), M, h) := by
  obtain ⟨q0, q1, q2, q3, q4, q5, q6, q7⟩ := id hv
  obtain ⟨x1, x2, x3, -⟩ := q6
  obtain ⟨y1, y2, y3, -⟩ := q7
  have x2 : v 168 ≤ v 164 := x2
  have y2 : v 189 ≤ v 185 := y2
  have a0 := isJ_0 hO.1
  have hst := isJ_st hO.1
  have a1 := isSt_1 hst
  obtain ⟨K0, K1, K2, K3, K4, b0, -⟩ := isSt_2 hst
  obtain ⟨F, G, c1, -⟩ := isSt_8 hst
  obtain ⟨F', G', c2, -⟩ := isSt_11 hst
  unfold roomI
  obtain rfl | rfl : s = 0 ∨ s = 1 := by omega
  · have e : zN (v 2) - zN (min (v (164 + 21 * 0)) (v (164 + 21 * (1 - 0) + 4))) = zN (v 2 - min (v 164) (v 189)) := zN_sub (by
      show min (v 164) (v 189) ≤ v 2
      omega)
    rw [e]
    simp (disch := first | exact cs_0 | exact cs_1 _ | exact cs_2 _ _ | exact cs_3 _ _ _ | exact cs_4 _ _ _ _ | exact j_one_i _ | exact j_one_r _ | exact j_one_n | omega) only [e78_0, e78_1, e78_4, e78_5, e78_8, e78_9, e78_12, e78_13, e78_14, e78_17, e78_18, e78_21, e78_22, e78_25, e78_28, e78_31, e78_32, e78_33, e78_36, e78_39, e78_42, e78_43, e78_46, e78_49, e78_52, e78_53, e78_55, e94_0, e94_1, e94_4, e94_5, e94_6, e94_9, e94_20, e34_0, e34_1, e34_4, e34_5, e34_8, e34_11, e34_12, e34_15, e35_0, e35_1, e35_2, e35_5, e35_8, e35_9, e35_12, e35_15, e35_16, e35_19, q_k_v, q_k_n, q_k_x, q_kc_v, q_kc_n, q_kc_x, q_rc, q_eq_t, q_eq_f, q_eq_nm, q_eq_mn, q_eq_mt, q_eq_mf, q_lt_t, q_lt_f, q_lt_mn, q_lt_nm, q_le_t, q_le_f, q_le_mn, q_le_nm, q_ac_t, q_ac_f, q_dv_n, q_rm_n, q_ld_n, q_lB_n, q_lJ_n, q_st_n, q_sB_n, q_sJ_n, q_sQ_n, q_cp_n, zN_add, zN_mul, zN_sub, zN_subm, zM_sub, zN_and, va_up_self, va_up_ne, j_add0, j_addt, ne_eq, not_false_eq_true, not_true_eq_false, Nat.reduceAdd, Nat.reduceSub, Nat.reduceMul, Nat.reduceMod, Nat.reduceEqDiff, q_g0_0, q_p0_0, q_g0_1, q_p0_1, q_g0_2, q_p0_2, q_g0_3, q_p0_3, q_g0_4, q_p0_4, q_g0_5, q_p0_5, q_g0_6, q_p0_6, q_g0_7, q_p0_7, q_g1_0, q_p1_0, q_g1_1, q_p1_1, q_g1_2, q_p1_2, q_g1_3, q_p1_3, q_g1_4, q_p1_4, q_g1_5, q_p1_5, q_g1_6, q_p1_6, q_g2_0, q_p2_0, q_g2_1, q_p2_1, q_g2_2, q_p2_2, q_g2_3, q_p2_3, q_g3_0, q_p3_0, q_g3_1, q_p3_1, q_g3_2, q_p3_2, q_g3_3, q_p3_3, q_g3_4, q_p3_4, q_g3_5, q_p3_5, q_g3_6, q_p3_6, q_g4_0, q_p4_0, q_g4_1, q_p4_1, q_g4_2, q_p4_2, q_g4_3, q_p4_3, q_g4_4, q_p4_4, q_g5_0, q_p5_0, q_g5_1, q_p5_1, q_g5_2, q_p5_2, q_g5_3, q_p5_3, q_g5_4, q_p5_4, q_g5_5, q_p5_5, q_g5_6, q_p5_6, q_g5_7, q_p5_7, q_g5_8, q_p5_8, q_g5_9, q_p5_9, q_g5_10, q_p5_10, q_g5_11, q_p5_11, q_g5_12, q_p5_12, q_g5_13, q_p5_13, q_g5_14, q_p5_14, q_g5_15, q_p5_15, a0, a1, b0, c1, c2]
    rw [e78_54, e78_55]
  · have e : zN (v 2) - zN (min (v (164 + 21 * 1)) (v (164 + 21 * (1 - 1) + 4))) = zN (v 2 - min (v 185) (v 168)) := zN_sub (by
      show min (v 185) (v 168) ≤ v 2
      omega)
    rw [e]
    simp (disch := first | exact cs_0 | exact cs_1 _ | exact cs_2 _ _ | exact cs_3 _ _ _ | exact cs_4 _ _ _ _ | exact j_one_i _ | exact j_one_r _ | exact j_one_n | omega) only [e78_0, e78_1, e78_4, e78_5, e78_8, e78_9, e78_12, e78_13, e78_14, e78_17, e78_18, e78_21, e78_22, e78_25, e78_28, e78_31, e78_32, e78_33, e78_36, e78_39, e78_42, e78_43, e78_46, e78_49, e78_52, e78_53, e78_55, e94_0, e94_1, e94_4, e94_5, e94_6, e94_9, e94_20, e34_0, e34_1, e34_4, e34_5, e34_8, e34_11, e34_12, e34_15, e35_0, e35_1, e35_2, e35_5, e35_8, e35_9, e35_12, e35_15, e35_16, e35_19, q_k_v, q_k_n, q_k_x, q_kc_v, q_kc_n, q_kc_x, q_rc, q_eq_t, q_eq_f, q_eq_nm, q_eq_mn, q_eq_mt, q_eq_mf, q_lt_t, q_lt_f, q_lt_mn, q_lt_nm, q_le_t, q_le_f, q_le_mn, q_le_nm, q_ac_t, q_ac_f, q_dv_n, q_rm_n, q_ld_n, q_lB_n, q_lJ_n, q_st_n, q_sB_n, q_sJ_n, q_sQ_n, q_cp_n, zN_add, zN_mul, zN_sub, zN_subm, zM_sub, zN_and, va_up_self, va_up_ne, j_add0, j_addt, ne_eq, not_false_eq_true, not_true_eq_false, Nat.reduceAdd, Nat.reduceSub, Nat.reduceMul, Nat.reduceMod, Nat.reduceEqDiff, q_g0_0, q_p0_0, q_g0_1, q_p0_1, q_g0_2, q_p0_2, q_g0_3, q_p0_3, q_g0_4, q_p0_4, q_g0_5, q_p0_5, q_g0_6, q_p0_6, q_g0_7, q_p0_7, q_g1_0, q_p1_0, q_g1_1, q_p1_1, q_g1_2, q_p1_2, q_g1_3, q_p1_3, q_g1_4, q_p1_4, q_g1_5, q_p1_5, q_g1_6, q_p1_6, q_g2_0, q_p2_0, q_g2_1, q_p2_1, q_g2_2, q_p2_2, q_g2_3, q_p2_3, q_g3_0, q_p3_0, q_g3_1, q_p3_1, q_g3_2, q_p3_2, q_g3_3, q_p3_3, q_g3_4, q_p3_4, q_g3_5, q_p3_5, q_g3_6, q_p3_6, q_g4_0, q_p4_0, q_g4_1, q_p4_1, q_g4_2, q_p4_2, q_g4_3, q_p4_3, q_g4_4, q_p4_4, q_g5_0, q_p5_0, q_g5_1, q_p5_1, q_g5_2, q_p5_2, q_g5_3, q_p5_3, q_g5_4, q_p5_4, q_g5_5, q_p5_5, q_g5_6, q_p5_6, q_g5_7, q_p5_7, q_g5_8, q_p5_8, q_g5_9, q_p5_9, q_g5_10, q_p5_10, q_g5_11, q_p5_11, q_g5_12, q_p5_12, q_g5_13, q_p5_13, q_g5_14, q_p5_14, q_g5_15, q_p5_15, a0, a1, b0, c1, c2]
    rw [e78_54, e78_55]
theorem o_undo (hO : isO M v cnt u ln tx) (hc : 0 < cnt) (l1 : u (cnt - 1) 165 < 2) (l2 : u (cnt - 1) 186 < 2) :
    ∃ M', Rn X (d + 7) 84 0 [some (.ref 0)] [] M h = some (.inl (some (.int (zN (cnt - 1)))), M', h) ∧ isO M' (u (cnt - 1)) (cnt - 1) u ln tx ∧ sm M M' 0 70 := by
  obtain ⟨tau, S, a0, a1, a2, a3, a4, a5, a6⟩ := id hO.1
  have hk := a2 (cnt - 1) (by omega)
  obtain ⟨M1, hM1⟩ : ∃ M1, M1 = va_up M 0 (.inr (4, [.ref 1, .ref 14, .int (zN (cnt - 1)), .ref 15, .ref 17])) := ⟨_, rfl⟩
  have s1 : ∀ a, a ≠ 0 → M1 a = M a := fun a q => by rw [hM1, va_up_ne _ _ q]
  have b0 : M1 0 = .inr (4, [.ref 1, .ref 14, .int (zN (cnt - 1)), .ref 15, .ref 17]) := by rw [hM1, va_up_self]
  have b14 := (s1 14 (by omega)).trans a1
  have b1 := (s1 1 (by omega)).trans a4.1
  obtain ⟨M2, e2, r2, s2⟩ := t_stCopy (X := X) (d := d + 4) (h := j_h0 h) (M := M1) (b := 1) (isSt_fr a4 fun a q1 q2 => s1 a (by omega)) (isSt_fr (a5 (cnt - 1) (by omega)) fun a q1 q2 => s1 a (by omega)) (by omega) l1 l2
  have g0 := (s2 0 (by omega)).trans b0
  have J1 : isJ M1 v (cnt - 1) u := ⟨tau, S, b0, b14, a2, a3, isSt_fr a4 fun a q1 q2 => s1 a (by omega), fun k hk => isSt_fr (a5 k hk) fun a q1 q2 => s1 a (by omega), by omega⟩
  refine ⟨M2, ?_, isO_of hO (isJ_now J1 r2 s2) fun a l1 l2 => by rw [s2 a (by omega), s1 a (by omega)], fun a q => by rw [s2 a (by omega), s1 a (by omega)]⟩
  have hM1' := hM1.symm
  simp (disch := first | exact cs_0 | exact cs_1 _ | exact cs_2 _ _ | exact cs_3 _ _ _ | exact cs_4 _ _ _ _ | exact j_one_i _ | exact j_one_r _ | exact j_one_n | omega) only [e84_0, e84_1, e84_4, e84_5, e84_8, e84_18, e84_19, e84_19r, e84_20, e84_23, e84_24, e84_25, e84_28, e84_29, e84_32, e84_33, e84_36, e84_37, e84_40, e84_41, e84_44, e84_45, e84_48, q_k_v, q_k_n, q_k_x, q_kc_v, q_kc_n, q_kc_x, q_rc, q_eq_t, q_eq_f, q_eq_nm, q_eq_mn, q_eq_mt, q_eq_mf, q_lt_t, q_lt_f, q_lt_mn, q_lt_nm, q_le_t, q_le_f, q_le_mn, q_le_nm, q_ac_t, q_ac_f, q_dv_n, q_rm_n, q_ld_n, q_lB_n, q_lJ_n, q_st_n, q_sB_n, q_sJ_n, q_sQ_n, q_cp_n, zN_add, zN_mul, zN_sub, zN_subm, zM_sub, zN_and, va_up_self, va_up_ne, j_add0, j_addt, ne_eq, not_false_eq_true, not_true_eq_false, Nat.reduceAdd, Nat.reduceSub, Nat.reduceMul, Nat.reduceMod, Nat.reduceEqDiff, q_g0_0, q_p0_0, q_g0_1, q_p0_1, q_g0_2, q_p0_2, q_g0_3, q_p0_3, q_g0_4, q_p0_4, q_g0_5, q_p0_5, q_g0_6, q_p0_6, q_g0_7, q_p0_7, q_g1_0, q_p1_0, q_g1_1, q_p1_1, q_g1_2, q_p1_2, q_g1_3, q_p1_3, q_g1_4, q_p1_4, q_g1_5, q_p1_5, q_g1_6, q_p1_6, q_g2_0, q_p2_0, q_g2_1, q_p2_1, q_g2_2, q_p2_2, q_g2_3, q_p2_3, q_g3_0, q_p3_0, q_g3_1, q_p3_1, q_g3_2, q_p3_2, q_g3_3, q_p3_3, q_g3_4, q_p3_4, q_g3_5, q_p3_5, q_g3_6, q_p3_6, q_g4_0, q_p4_0, q_g4_1, q_p4_1, q_g4_2, q_p4_2, q_g4_3, q_p4_3, q_g4_4, q_p4_4, q_g5_0, q_p5_0, q_g5_1, q_p5_1, q_g5_2, q_p5_2, q_g5_3, q_p5_3, q_g5_4, q_p5_4, q_g5_5, q_p5_5, q_g5_6, q_p5_6, q_g5_7, q_p5_7, q_g5_8, q_p5_8, q_g5_9, q_p5_9, q_g5_10, q_p5_10, q_g5_11, q_p5_11, q_g5_12, q_p5_12, q_g5_13, q_p5_13, q_g5_14, q_p5_14, q_g5_15, q_p5_15, q_lQ_o, q_ro_s, a0, hM1', b0, b14, b1, hk.1, e2, g0]
end
