/-! the class's states: repairs, new orders, spoiled copies -/
theorem sp0_od {v : rw_} {p p' w : Nat} (hw : w < 4) : od (sp0 v p) p' w = od v p' w := by
  unfold od sp0
  rw [va_up_ne _ _ (by omega)]
theorem sp0_od4 {v : rw_} {p p' : Nat} : od (sp0 v p) p' 4 = if p' % 32 = p % 32 then 0 else od v p' 4 := by
  unfold od sp0
  by_cases c : p' % 32 = p % 32
  · rw [if_pos c, c, va_up_self]
  · rw [if_neg c, va_up_ne _ _ (by omega)]
theorem sp0_out {v : rw_} {p j : Nat} (hj : j < 4 ∨ 164 ≤ j) : sp0 v p j = v j := by
  unfold sp0
  rw [va_up_ne _ _ (by omega)]
/-- the same, but for the orders -/
theorem isSt_ring {M M' : jM} {b : Nat} {v v' : rw_} (h : isSt M b v) (hr : isRing M' (b + 1) v') (hm : sm M M' (b + 1) (b + 7)) (hv : ∀ j, 164 ≤ j → v' j = v j) (h3 : v' 3 = v 3) : isSt M' b v' ∧ sm M M' b (b + 13) := by
  refine ⟨⟨?_, hr, ?_, ?_⟩, sm_w hm (by omega) (by omega)⟩
  · rw [hm b (by omega), h3]
    exact h.1
  · exact isShip_v (isShip_fr h.2.2.1 fun a q1 q2 => hm a (by omega)) fun j hj => hv _ (by omega)
  · exact isShip_v (isShip_fr h.2.2.2 fun a q1 q2 => hm a (by omega)) fun j hj => hv _ (by omega)
section
variable {X : jX} {d : Nat} {M : jM} {h : jH}
theorem t_can {b p : Nat} {w : rw_} (hb : isSt M b w) (h1 : w 1 ≤ p) (h2 : p < w 2) (hl : w 2 < 1000000000) (h4 : od w p 4 < 4) (u1 : w 165 < 2) (u2 : w 186 < 2) (p1 : w 164 < 1000000000) (p2 : w 185 < 1000000000) :
    Rn X (d + 4) 44 0 [some (.ref b), some (.int (zN p))] [] M h = some (.inl (some (.int (zN (if knows w p then 1 else 0)))), M, h) := by
  obtain ⟨a0, ⟨K0, K1, K2, K3, K4, b0, b1, b2, b3, b4, b5, b6⟩, ⟨F, G, c1, -⟩, ⟨F', G', c2, -⟩⟩ := hb
  have k4 := (b6 p h1 h2).2.2.2.2
  by_cases e4 : od w p 4 = 3
  · rw [e4] at k4
    by_cases e1 : w 165 = 1 ∧ p < w 164
    · obtain ⟨f1, f2⟩ := e1
      have hk : knows w p = true := by simp [knows, f1, f2]
      simp (disch := first | exact cs_0 | exact cs_1 _ | exact cs_2 _ _ | exact cs_3 _ _ _ | exact cs_4 _ _ _ _ | exact j_one_i _ | exact j_one_r _ | exact j_one_n | omega) only [e44_0, e44_1, e44_4, e44_5, e44_8, e44_11, e44_12, e44_15, e44_16, e44_19, e44_22, e44_23, e44_26, e44_27, e44_30, e44_33, e44_34, e44_37, e44_38, e45_0, e45_1, e45_4, e45_7, e45_8, e45_11, e45_12, e45_15, e45_16, e45_19, e45_20, e13_0, e13_1, e13_2, e13_5, e13_6, e13_9, e13_10, e13_13, e13_14, e12_0, e12_1, e12_4, e12_5, e12_8, e12_9, e1_0, e1_1, e1_3, e1_4, q_k_v, q_k_n, q_k_x, q_kc_v, q_kc_n, q_kc_x, q_rc, q_eq_t, q_eq_f, q_eq_nm, q_eq_mn, q_eq_mt, q_eq_mf, q_lt_t, q_lt_f, q_lt_mn, q_lt_nm, q_le_t, q_le_f, q_le_mn, q_le_nm, q_ac_t, q_ac_f, q_dv_n, q_rm_n, q_ld_n, q_lB_n, q_lJ_n, q_st_n, q_sB_n, q_sJ_n, q_sQ_n, q_cp_n, zN_add, zN_mul, zN_sub, zN_subm, zM_sub, zN_and, va_up_self, va_up_ne, j_add0, j_addt, ne_eq, not_false_eq_true, not_true_eq_false, Nat.reduceAdd, Nat.reduceSub, Nat.reduceMul, Nat.reduceMod, Nat.reduceEqDiff, q_g0_0, q_p0_0, q_g0_1, q_p0_1, q_g0_2, q_p0_2, q_g0_3, q_p0_3, q_g0_4, q_p0_4, q_g0_5, q_p0_5, q_g0_6, q_p0_6, q_g0_7, q_p0_7, q_g1_0, q_p1_0, q_g1_1, q_p1_1, q_g1_2, q_p1_2, q_g1_3, q_p1_3, q_g1_4, q_p1_4, q_g1_5, q_p1_5, q_g1_6, q_p1_6, q_g2_0, q_p2_0, q_g2_1, q_p2_1, q_g2_2, q_p2_2, q_g2_3, q_p2_3, q_g3_0, q_p3_0, q_g3_1, q_p3_1, q_g3_2, q_p3_2, q_g3_3, q_p3_3, q_g3_4, q_p3_4, q_g3_5, q_p3_5, q_g3_6, q_p3_6, q_g4_0, q_p4_0, q_g4_1, q_p4_1, q_g4_2, q_p4_2, q_g4_3, q_p4_3, q_g4_4, q_p4_4, q_g5_0, q_p5_0, q_g5_1, q_p5_1, q_g5_2, q_p5_2, q_g5_3, q_p5_3, q_g5_4, q_p5_4, q_g5_5, q_p5_5, q_g5_6, q_p5_6, q_g5_7, q_p5_7, q_g5_8, q_p5_8, q_g5_9, q_p5_9, q_g5_10, q_p5_10, q_g5_11, q_p5_11, q_g5_12, q_p5_12, q_g5_13, q_p5_13, q_g5_14, q_p5_14, q_g5_15, q_p5_15, a0, b0, b5, c1, c2, k4, f1, hk, ↓reduceIte]
    · have g1 : (decide (w 165 = 1) && decide (p < w 164)) = false := by
        rw [← Bool.decide_and]
        exact decide_eq_false e1
      by_cases e2 : w 186 = 1 ∧ p < w 185
      · obtain ⟨f1, f2⟩ := e2
        have hk : knows w p = true := by simp [knows, f1, f2]
        by_cases f3 : w 165 = 1
        · have f4 : w 164 ≤ p := by omega
          simp (disch := first | exact cs_0 | exact cs_1 _ | exact cs_2 _ _ | exact cs_3 _ _ _ | exact cs_4 _ _ _ _ | exact j_one_i _ | exact j_one_r _ | exact j_one_n | omega) only [e44_0, e44_1, e44_4, e44_5, e44_8, e44_11, e44_12, e44_15, e44_16, e44_19, e44_22, e44_23, e44_26, e44_27, e44_30, e44_33, e44_34, e44_37, e44_38, e45_0, e45_1, e45_4, e45_7, e45_8, e45_11, e45_12, e45_15, e45_16, e45_19, e45_20, e13_0, e13_1, e13_2, e13_5, e13_6, e13_9, e13_10, e13_13, e13_14, e12_0, e12_1, e12_4, e12_5, e12_8, e12_9, e1_0, e1_1, e1_3, e1_4, q_k_v, q_k_n, q_k_x, q_kc_v, q_kc_n, q_kc_x, q_rc, q_eq_t, q_eq_f, q_eq_nm, q_eq_mn, q_eq_mt, q_eq_mf, q_lt_t, q_lt_f, q_lt_mn, q_lt_nm, q_le_t, q_le_f, q_le_mn, q_le_nm, q_ac_t, q_ac_f, q_dv_n, q_rm_n, q_ld_n, q_lB_n, q_lJ_n, q_st_n, q_sB_n, q_sJ_n, q_sQ_n, q_cp_n, zN_add, zN_mul, zN_sub, zN_subm, zM_sub, zN_and, va_up_self, va_up_ne, j_add0, j_addt, ne_eq, not_false_eq_true, not_true_eq_false, Nat.reduceAdd, Nat.reduceSub, Nat.reduceMul, Nat.reduceMod, Nat.reduceEqDiff, q_g0_0, q_p0_0, q_g0_1, q_p0_1, q_g0_2, q_p0_2, q_g0_3, q_p0_3, q_g0_4, q_p0_4, q_g0_5, q_p0_5, q_g0_6, q_p0_6, q_g0_7, q_p0_7, q_g1_0, q_p1_0, q_g1_1, q_p1_1, q_g1_2, q_p1_2, q_g1_3, q_p1_3, q_g1_4, q_p1_4, q_g1_5, q_p1_5, q_g1_6, q_p1_6, q_g2_0, q_p2_0, q_g2_1, q_p2_1, q_g2_2, q_p2_2, q_g2_3, q_p2_3, q_g3_0, q_p3_0, q_g3_1, q_p3_1, q_g3_2, q_p3_2, q_g3_3, q_p3_3, q_g3_4, q_p3_4, q_g3_5, q_p3_5, q_g3_6, q_p3_6, q_g4_0, q_p4_0, q_g4_1, q_p4_1, q_g4_2, q_p4_2, q_g4_3, q_p4_3, q_g4_4, q_p4_4, q_g5_0, q_p5_0, q_g5_1, q_p5_1, q_g5_2, q_p5_2, q_g5_3, q_p5_3, q_g5_4, q_p5_4, q_g5_5, q_p5_5, q_g5_6, q_p5_6, q_g5_7, q_p5_7, q_g5_8, q_p5_8, q_g5_9, q_p5_9, q_g5_10, q_p5_10, q_g5_11, q_p5_11, q_g5_12, q_p5_12, q_g5_13, q_p5_13, q_g5_14, q_p5_14, q_g5_15, q_p5_15, a0, b0, b5, c1, c2, k4, f1, f3, hk, ↓reduceIte]
        · have f3' : w 165 = 0 := by omega
          simp (disch := first | exact cs_0 | exact cs_1 _ | exact cs_2 _ _ | exact cs_3 _ _ _ | exact cs_4 _ _ _ _ | exact j_one_i _ | exact j_one_r _ | exact j_one_n | omega) only [e44_0, e44_1, e44_4, e44_5, e44_8, e44_11, e44_12, e44_15, e44_16, e44_19, e44_22, e44_23, e44_26, e44_27, e44_30, e44_33, e44_34, e44_37, e44_38, e45_0, e45_1, e45_4, e45_7, e45_8, e45_11, e45_12, e45_15, e45_16, e45_19, e45_20, e13_0, e13_1, e13_2, e13_5, e13_6, e13_9, e13_10, e13_13, e13_14, e12_0, e12_1, e12_4, e12_5, e12_8, e12_9, e1_0, e1_1, e1_3, e1_4, q_k_v, q_k_n, q_k_x, q_kc_v, q_kc_n, q_kc_x, q_rc, q_eq_t, q_eq_f, q_eq_nm, q_eq_mn, q_eq_mt, q_eq_mf, q_lt_t, q_lt_f, q_lt_mn, q_lt_nm, q_le_t, q_le_f, q_le_mn, q_le_nm, q_ac_t, q_ac_f, q_dv_n, q_rm_n, q_ld_n, q_lB_n, q_lJ_n, q_st_n, q_sB_n, q_sJ_n, q_sQ_n, q_cp_n, zN_add, zN_mul, zN_sub, zN_subm, zM_sub, zN_and, va_up_self, va_up_ne, j_add0, j_addt, ne_eq, not_false_eq_true, not_true_eq_false, Nat.reduceAdd, Nat.reduceSub, Nat.reduceMul, Nat.reduceMod, Nat.reduceEqDiff, q_g0_0, q_p0_0, q_g0_1, q_p0_1, q_g0_2, q_p0_2, q_g0_3, q_p0_3, q_g0_4, q_p0_4, q_g0_5, q_p0_5, q_g0_6, q_p0_6, q_g0_7, q_p0_7, q_g1_0, q_p1_0, q_g1_1, q_p1_1, q_g1_2, q_p1_2, q_g1_3, q_p1_3, q_g1_4, q_p1_4, q_g1_5, q_p1_5, q_g1_6, q_p1_6, q_g2_0, q_p2_0, q_g2_1, q_p2_1, q_g2_2, q_p2_2, q_g2_3, q_p2_3, q_g3_0, q_p3_0, q_g3_1, q_p3_1, q_g3_2, q_p3_2, q_g3_3, q_p3_3, q_g3_4, q_p3_4, q_g3_5, q_p3_5, q_g3_6, q_p3_6, q_g4_0, q_p4_0, q_g4_1, q_p4_1, q_g4_2, q_p4_2, q_g4_3, q_p4_3, q_g4_4, q_p4_4, q_g5_0, q_p5_0, q_g5_1, q_p5_1, q_g5_2, q_p5_2, q_g5_3, q_p5_3, q_g5_4, q_p5_4, q_g5_5, q_p5_5, q_g5_6, q_p5_6, q_g5_7, q_p5_7, q_g5_8, q_p5_8, q_g5_9, q_p5_9, q_g5_10, q_p5_10, q_g5_11, q_p5_11, q_g5_12, q_p5_12, q_g5_13, q_p5_13, q_g5_14, q_p5_14, q_g5_15, q_p5_15, a0, b0, b5, c1, c2, k4, f1, f3', hk, ↓reduceIte]
      · have g2 : (decide (w 186 = 1) && decide (p < w 185)) = false := by
          rw [← Bool.decide_and]
          exact decide_eq_false e2
        have hk : knows w p = false := by
          unfold knows
          rw [g1, g2, e4]
          rfl
        by_cases f3 : w 165 = 1
        · have f4 : w 164 ≤ p := by omega
          by_cases f5 : w 186 = 1
          · have f6 : w 185 ≤ p := by omega
            simp (disch := first | exact cs_0 | exact cs_1 _ | exact cs_2 _ _ | exact cs_3 _ _ _ | exact cs_4 _ _ _ _ | exact j_one_i _ | exact j_one_r _ | exact j_one_n | omega) only [e44_0, e44_1, e44_4, e44_5, e44_8, e44_11, e44_12, e44_15, e44_16, e44_19, e44_22, e44_23, e44_26, e44_27, e44_30, e44_33, e44_34, e44_37, e44_38, e45_0, e45_1, e45_4, e45_7, e45_8, e45_11, e45_12, e45_15, e45_16, e45_19, e45_20, e13_0, e13_1, e13_2, e13_5, e13_6, e13_9, e13_10, e13_13, e13_14, e12_0, e12_1, e12_4, e12_5, e12_8, e12_9, e1_0, e1_1, e1_3, e1_4, q_k_v, q_k_n, q_k_x, q_kc_v, q_kc_n, q_kc_x, q_rc, q_eq_t, q_eq_f, q_eq_nm, q_eq_mn, q_eq_mt, q_eq_mf, q_lt_t, q_lt_f, q_lt_mn, q_lt_nm, q_le_t, q_le_f, q_le_mn, q_le_nm, q_ac_t, q_ac_f, q_dv_n, q_rm_n, q_ld_n, q_lB_n, q_lJ_n, q_st_n, q_sB_n, q_sJ_n, q_sQ_n, q_cp_n, zN_add, zN_mul, zN_sub, zN_subm, zM_sub, zN_and, va_up_self, va_up_ne, j_add0, j_addt, ne_eq, not_false_eq_true, not_true_eq_false, Nat.reduceAdd, Nat.reduceSub, Nat.reduceMul, Nat.reduceMod, Nat.reduceEqDiff, q_g0_0, q_p0_0, q_g0_1, q_p0_1, q_g0_2, q_p0_2, q_g0_3, q_p0_3, q_g0_4, q_p0_4, q_g0_5, q_p0_5, q_g0_6, q_p0_6, q_g0_7, q_p0_7, q_g1_0, q_p1_0, q_g1_1, q_p1_1, q_g1_2, q_p1_2, q_g1_3, q_p1_3, q_g1_4, q_p1_4, q_g1_5, q_p1_5, q_g1_6, q_p1_6, q_g2_0, q_p2_0, q_g2_1, q_p2_1, q_g2_2, q_p2_2, q_g2_3, q_p2_3, q_g3_0, q_p3_0, q_g3_1, q_p3_1, q_g3_2, q_p3_2, q_g3_3, q_p3_3, q_g3_4, q_p3_4, q_g3_5, q_p3_5, q_g3_6, q_p3_6, q_g4_0, q_p4_0, q_g4_1, q_p4_1, q_g4_2, q_p4_2, q_g4_3, q_p4_3, q_g4_4, q_p4_4, q_g5_0, q_p5_0, q_g5_1, q_p5_1, q_g5_2, q_p5_2, q_g5_3, q_p5_3, q_g5_4, q_p5_4, q_g5_5, q_p5_5, q_g5_6, q_p5_6, q_g5_7, q_p5_7, q_g5_8, q_p5_8, q_g5_9, q_p5_9, q_g5_10, q_p5_10, q_g5_11, q_p5_11, q_g5_12, q_p5_12, q_g5_13, q_p5_13, q_g5_14, q_p5_14, q_g5_15, q_p5_15, a0, b0, b5, c1, c2, k4, f3, f5, hk, Bool.false_eq_true, ↓reduceIte]
          · have f5' : w 186 = 0 := by omega
            simp (disch := first | exact cs_0 | exact cs_1 _ | exact cs_2 _ _ | exact cs_3 _ _ _ | exact cs_4 _ _ _ _ | exact j_one_i _ | exact j_one_r _ | exact j_one_n | omega) only [e44_0, e44_1, e44_4, e44_5, e44_8, e44_11, e44_12, e44_15, e44_16, e44_19, e44_22, e44_23, e44_26, e44_27, e44_30, e44_33, e44_34, e44_37, e44_38, e45_0, e45_1, e45_4, e45_7, e45_8, e45_11, e45_12, e45_15, e45_16, e45_19, e45_20, e13_0, e13_1, e13_2, e13_5, e13_6, e13_9, e13_10, e13_13, e13_14, e12_0, e12_1, e12_4, e12_5, e12_8, e12_9, e1_0, e1_1, e1_3, e1_4, q_k_v, q_k_n, q_k_x, q_kc_v, q_kc_n, q_kc_x, q_rc, q_eq_t, q_eq_f, q_eq_nm, q_eq_mn, q_eq_mt, q_eq_mf, q_lt_t, q_lt_f, q_lt_mn, q_lt_nm, q_le_t, q_le_f, q_le_mn, q_le_nm, q_ac_t, q_ac_f, q_dv_n, q_rm_n, q_ld_n, q_lB_n, q_lJ_n, q_st_n, q_sB_n, q_sJ_n, q_sQ_n, q_cp_n, zN_add, zN_mul, zN_sub, zN_subm, zM_sub, zN_and, va_up_self, va_up_ne, j_add0, j_addt, ne_eq, not_false_eq_true, not_true_eq_false, Nat.reduceAdd, Nat.reduceSub, Nat.reduceMul, Nat.reduceMod, Nat.reduceEqDiff, q_g0_0, q_p0_0, q_g0_1, q_p0_1, q_g0_2, q_p0_2, q_g0_3, q_p0_3, q_g0_4, q_p0_4, q_g0_5, q_p0_5, q_g0_6, q_p0_6, q_g0_7, q_p0_7, q_g1_0, q_p1_0, q_g1_1, q_p1_1, q_g1_2, q_p1_2, q_g1_3, q_p1_3, q_g1_4, q_p1_4, q_g1_5, q_p1_5, q_g1_6, q_p1_6, q_g2_0, q_p2_0, q_g2_1, q_p2_1, q_g2_2, q_p2_2, q_g2_3, q_p2_3, q_g3_0, q_p3_0, q_g3_1, q_p3_1, q_g3_2, q_p3_2, q_g3_3, q_p3_3, q_g3_4, q_p3_4, q_g3_5, q_p3_5, q_g3_6, q_p3_6, q_g4_0, q_p4_0, q_g4_1, q_p4_1, q_g4_2, q_p4_2, q_g4_3, q_p4_3, q_g4_4, q_p4_4, q_g5_0, q_p5_0, q_g5_1, q_p5_1, q_g5_2, q_p5_2, q_g5_3, q_p5_3, q_g5_4, q_p5_4, q_g5_5, q_p5_5, q_g5_6, q_p5_6, q_g5_7, q_p5_7, q_g5_8, q_p5_8, q_g5_9, q_p5_9, q_g5_10, q_p5_10, q_g5_11, q_p5_11, q_g5_12, q_p5_12, q_g5_13, q_p5_13, q_g5_14, q_p5_14, q_g5_15, q_p5_15, a0, b0, b5, c1, c2, k4, f3, f5', hk, Bool.false_eq_true, ↓reduceIte]
        · have f3' : w 165 = 0 := by omega
          by_cases f5 : w 186 = 1
          · have f6 : w 185 ≤ p := by omega
            simp (disch := first | exact cs_0 | exact cs_1 _ | exact cs_2 _ _ | exact cs_3 _ _ _ | exact cs_4 _ _ _ _ | exact j_one_i _ | exact j_one_r _ | exact j_one_n | omega) only [e44_0, e44_1, e44_4, e44_5, e44_8, e44_11, e44_12, e44_15, e44_16, e44_19, e44_22, e44_23, e44_26, e44_27, e44_30, e44_33, e44_34, e44_37, e44_38, e45_0, e45_1, e45_4, e45_7, e45_8, e45_11, e45_12, e45_15, e45_16, e45_19, e45_20, e13_0, e13_1, e13_2, e13_5, e13_6, e13_9, e13_10, e13_13, e13_14, e12_0, e12_1, e12_4, e12_5, e12_8, e12_9, e1_0, e1_1, e1_3, e1_4, q_k_v, q_k_n, q_k_x, q_kc_v, q_kc_n, q_kc_x, q_rc, q_eq_t, q_eq_f, q_eq_nm, q_eq_mn, q_eq_mt, q_eq_mf, q_lt_t, q_lt_f, q_lt_mn, q_lt_nm, q_le_t, q_le_f, q_le_mn, q_le_nm, q_ac_t, q_ac_f, q_dv_n, q_rm_n, q_ld_n, q_lB_n, q_lJ_n, q_st_n, q_sB_n, q_sJ_n, q_sQ_n, q_cp_n, zN_add, zN_mul, zN_sub, zN_subm, zM_sub, zN_and, va_up_self, va_up_ne, j_add0, j_addt, ne_eq, not_false_eq_true, not_true_eq_false, Nat.reduceAdd, Nat.reduceSub, Nat.reduceMul, Nat.reduceMod, Nat.reduceEqDiff, q_g0_0, q_p0_0, q_g0_1, q_p0_1, q_g0_2, q_p0_2, q_g0_3, q_p0_3, q_g0_4, q_p0_4, q_g0_5, q_p0_5, q_g0_6, q_p0_6, q_g0_7, q_p0_7, q_g1_0, q_p1_0, q_g1_1, q_p1_1, q_g1_2, q_p1_2, q_g1_3, q_p1_3, q_g1_4, q_p1_4, q_g1_5, q_p1_5, q_g1_6, q_p1_6, q_g2_0, q_p2_0, q_g2_1, q_p2_1, q_g2_2, q_p2_2, q_g2_3, q_p2_3, q_g3_0, q_p3_0, q_g3_1, q_p3_1, q_g3_2, q_p3_2, q_g3_3, q_p3_3, q_g3_4, q_p3_4, q_g3_5, q_p3_5, q_g3_6, q_p3_6, q_g4_0, q_p4_0, q_g4_1, q_p4_1, q_g4_2, q_p4_2, q_g4_3, q_p4_3, q_g4_4, q_p4_4, q_g5_0, q_p5_0, q_g5_1, q_p5_1, q_g5_2, q_p5_2, q_g5_3, q_p5_3, q_g5_4, q_p5_4, q_g5_5, q_p5_5, q_g5_6, q_p5_6, q_g5_7, q_p5_7, q_g5_8, q_p5_8, q_g5_9, q_p5_9, q_g5_10, q_p5_10, q_g5_11, q_p5_11, q_g5_12, q_p5_12, q_g5_13, q_p5_13, q_g5_14, q_p5_14, q_g5_15, q_p5_15, a0, b0, b5, c1, c2, k4, f3', f5, hk, Bool.false_eq_true, ↓reduceIte]
          · have f5' : w 186 = 0 := by omega
            simp (disch := first | exact cs_0 | exact cs_1 _ | exact cs_2 _ _ | exact cs_3 _ _ _ | exact cs_4 _ _ _ _ | exact j_one_i _ | exact j_one_r _ | exact j_one_n | omega) only [e44_0, e44_1, e44_4, e44_5, e44_8, e44_11, e44_12, e44_15, e44_16, e44_19, e44_22, e44_23, e44_26, e44_27, e44_30, e44_33, e44_34, e44_37, e44_38, e45_0, e45_1, e45_4, e45_7, e45_8, e45_11, e45_12, e45_15, e45_16, e45_19, e45_20, e13_0, e13_1, e13_2, e13_5, e13_6, e13_9, e13_10, e13_13, e13_14, e12_0, e12_1, e12_4, e12_5, e12_8, e12_9, e1_0, e1_1, e1_3, e1_4, q_k_v, q_k_n, q_k_x, q_kc_v, q_kc_n, q_kc_x, q_rc, q_eq_t, q_eq_f, q_eq_nm, q_eq_mn, q_eq_mt, q_eq_mf, q_lt_t, q_lt_f, q_lt_mn, q_lt_nm, q_le_t, q_le_f, q_le_mn, q_le_nm, q_ac_t, q_ac_f, q_dv_n, q_rm_n, q_ld_n, q_lB_n, q_lJ_n, q_st_n, q_sB_n, q_sJ_n, q_sQ_n, q_cp_n, zN_add, zN_mul, zN_sub, zN_subm, zM_sub, zN_and, va_up_self, va_up_ne, j_add0, j_addt, ne_eq, not_false_eq_true, not_true_eq_false, Nat.reduceAdd, Nat.reduceSub, Nat.reduceMul, Nat.reduceMod, Nat.reduceEqDiff, q_g0_0, q_p0_0, q_g0_1, q_p0_1, q_g0_2, q_p0_2, q_g0_3, q_p0_3, q_g0_4, q_p0_4, q_g0_5, q_p0_5, q_g0_6, q_p0_6, q_g0_7, q_p0_7, q_g1_0, q_p1_0, q_g1_1, q_p1_1, q_g1_2, q_p1_2, q_g1_3, q_p1_3, q_g1_4, q_p1_4, q_g1_5, q_p1_5, q_g1_6, q_p1_6, q_g2_0, q_p2_0, q_g2_1, q_p2_1, q_g2_2, q_p2_2, q_g2_3, q_p2_3, q_g3_0, q_p3_0, q_g3_1, q_p3_1, q_g3_2, q_p3_2, q_g3_3, q_p3_3, q_g3_4, q_p3_4, q_g3_5, q_p3_5, q_g3_6, q_p3_6, q_g4_0, q_p4_0, q_g4_1, q_p4_1, q_g4_2, q_p4_2, q_g4_3, q_p4_3, q_g4_4, q_p4_4, q_g5_0, q_p5_0, q_g5_1, q_p5_1, q_g5_2, q_p5_2, q_g5_3, q_p5_3, q_g5_4, q_p5_4, q_g5_5, q_p5_5, q_g5_6, q_p5_6, q_g5_7, q_p5_7, q_g5_8, q_p5_8, q_g5_9, q_p5_9, q_g5_10, q_p5_10, q_g5_11, q_p5_11, q_g5_12, q_p5_12, q_g5_13, q_p5_13, q_g5_14, q_p5_14, q_g5_15, q_p5_15, a0, b0, b5, c1, c2, k4, f3', f5', hk, Bool.false_eq_true, ↓reduceIte]
  · have hk : knows w p = true := by simp [knows, e4]
    simp (disch := first | exact cs_0 | exact cs_1 _ | exact cs_2 _ _ | exact cs_3 _ _ _ | exact cs_4 _ _ _ _ | exact j_one_i _ | exact j_one_r _ | exact j_one_n | omega) only [e44_0, e44_1, e44_4, e44_5, e44_8, e44_11, e44_12, e44_15, e44_16, e44_19, e44_22, e44_23, e44_26, e44_27, e44_30, e44_33, e44_34, e44_37, e44_38, e45_0, e45_1, e45_4, e45_7, e45_8, e45_11, e45_12, e45_15, e45_16, e45_19, e45_20, e13_0, e13_1, e13_2, e13_5, e13_6, e13_9, e13_10, e13_13, e13_14, e12_0, e12_1, e12_4, e12_5, e12_8, e12_9, e1_0, e1_1, e1_3, e1_4, q_k_v, q_k_n, q_k_x, q_kc_v, q_kc_n, q_kc_x, q_rc, q_eq_t, q_eq_f, q_eq_nm, q_eq_mn, q_eq_mt, q_eq_mf, q_lt_t, q_lt_f, q_lt_mn, q_lt_nm, q_le_t, q_le_f, q_le_mn, q_le_nm, q_ac_t, q_ac_f, q_dv_n, q_rm_n, q_ld_n, q_lB_n, q_lJ_n, q_st_n, q_sB_n, q_sJ_n, q_sQ_n, q_cp_n, zN_add, zN_mul, zN_sub, zN_subm, zM_sub, zN_and, va_up_self, va_up_ne, j_add0, j_addt, ne_eq, not_false_eq_true, not_true_eq_false, Nat.reduceAdd, Nat.reduceSub, Nat.reduceMul, Nat.reduceMod, Nat.reduceEqDiff, q_g0_0, q_p0_0, q_g0_1, q_p0_1, q_g0_2, q_p0_2, q_g0_3, q_p0_3, q_g0_4, q_p0_4, q_g0_5, q_p0_5, q_g0_6, q_p0_6, q_g0_7, q_p0_7, q_g1_0, q_p1_0, q_g1_1, q_p1_1, q_g1_2, q_p1_2, q_g1_3, q_p1_3, q_g1_4, q_p1_4, q_g1_5, q_p1_5, q_g1_6, q_p1_6, q_g2_0, q_p2_0, q_g2_1, q_p2_1, q_g2_2, q_p2_2, q_g2_3, q_p2_3, q_g3_0, q_p3_0, q_g3_1, q_p3_1, q_g3_2, q_p3_2, q_g3_3, q_p3_3, q_g3_4, q_p3_4, q_g3_5, q_p3_5, q_g3_6, q_p3_6, q_g4_0, q_p4_0, q_g4_1, q_p4_1, q_g4_2, q_p4_2, q_g4_3, q_p4_3, q_g4_4, q_p4_4, q_g5_0, q_p5_0, q_g5_1, q_p5_1, q_g5_2, q_p5_2, q_g5_3, q_p5_3, q_g5_4, q_p5_4, q_g5_5, q_p5_5, q_g5_6, q_p5_6, q_g5_7, q_p5_7, q_g5_8, q_p5_8, q_g5_9, q_p5_9, q_g5_10, q_p5_10, q_g5_11, q_p5_11, q_g5_12, q_p5_12, q_g5_13, q_p5_13, q_g5_14, q_p5_14, q_g5_15, q_p5_15, a0, b0, b5, c1, c2, k4, hk, ↓reduceIte]
theorem t_rpr {b : Nat} : ∀ n p q w M, p + n = w 2 → w 1 ≤ p → isSt M b w → w 2 < 1000000000 → (∀ p, w 1 ≤ p → p < w 2 → od w p 4 < 4) → w 165 < 2 → w 186 < 2 → w 164 < 1000000000 → w 185 < 1000000000 →
    ∃ M', Rn X (d + 5) 43 10 [some (.ref b), some (.int (zN q)), some (.int (zN p))] [] M h = some (.inl (some (.int (zN (q + (rprN n p w).1)))), M', h) ∧ isSt M' b (va_up (rprN n p w).2 3 (w 3 + (q + (rprN n p w).1))) ∧ sm M M' b (b + 13) := by
  intro n
  induction n with
  | zero =>
    intro p q w M hp h1 hb hl h4 u1 u2 p1 p2
    have hp' : p = w 2 := by omega
    subst hp'
    obtain ⟨a0, hr, hs1, hs2⟩ := hb
    have hr' := hr
    obtain ⟨K0, K1, K2, K3, K4, b0, -⟩ := hr'
    refine ⟨_, by (simp (disch := first | exact cs_0 | exact cs_1 _ | exact cs_2 _ _ | exact cs_3 _ _ _ | exact cs_4 _ _ _ _ | exact j_one_i _ | exact j_one_r _ | exact j_one_n | omega) only [e43_0, e43_1, e43_2, e43_3, e43_6, e43_9, e43_10, e43_11, e43_12, e43_15, e43_18, e43_21, e43_22, e43_23, e43_26, e43_29, e43_30, e43_31, e43_34, e43_35, e43_38, e43_39, e43_40, e43_43, e43_46, e43_47, e43_47r, e43_48, e43_51, e43_52, e43_53, e43_56, e43_57, q_k_v, q_k_n, q_k_x, q_kc_v, q_kc_n, q_kc_x, q_rc, q_eq_t, q_eq_f, q_eq_nm, q_eq_mn, q_eq_mt, q_eq_mf, q_lt_t, q_lt_f, q_lt_mn, q_lt_nm, q_le_t, q_le_f, q_le_mn, q_le_nm, q_ac_t, q_ac_f, q_dv_n, q_rm_n, q_ld_n, q_lB_n, q_lJ_n, q_st_n, q_sB_n, q_sJ_n, q_sQ_n, q_cp_n, zN_add, zN_mul, zN_sub, zN_subm, zM_sub, zN_and, va_up_self, va_up_ne, j_add0, j_addt, ne_eq, not_false_eq_true, not_true_eq_false, Nat.reduceAdd, Nat.reduceSub, Nat.reduceMul, Nat.reduceMod, Nat.reduceEqDiff, q_g0_0, q_p0_0, q_g0_1, q_p0_1, q_g0_2, q_p0_2, q_g0_3, q_p0_3, q_g0_4, q_p0_4, q_g0_5, q_p0_5, q_g0_6, q_p0_6, q_g0_7, q_p0_7, q_g1_0, q_p1_0, q_g1_1, q_p1_1, q_g1_2, q_p1_2, q_g1_3, q_p1_3, q_g1_4, q_p1_4, q_g1_5, q_p1_5, q_g1_6, q_p1_6, q_g2_0, q_p2_0, q_g2_1, q_p2_1, q_g2_2, q_p2_2, q_g2_3, q_p2_3, q_g3_0, q_p3_0, q_g3_1, q_p3_1, q_g3_2, q_p3_2, q_g3_3, q_p3_3, q_g3_4, q_p3_4, q_g3_5, q_p3_5, q_g3_6, q_p3_6, q_g4_0, q_p4_0, q_g4_1, q_p4_1, q_g4_2, q_p4_2, q_g4_3, q_p4_3, q_g4_4, q_p4_4, q_g5_0, q_p5_0, q_g5_1, q_p5_1, q_g5_2, q_p5_2, q_g5_3, q_p5_3, q_g5_4, q_p5_4, q_g5_5, q_p5_5, q_g5_6, q_p5_6, q_g5_7, q_p5_7, q_g5_8, q_p5_8, q_g5_9, q_p5_9, q_g5_10, q_p5_10, q_g5_11, q_p5_11, q_g5_12, q_p5_12, q_g5_13, q_p5_13, q_g5_14, q_p5_14, q_g5_15, q_p5_15, a0, b0, rprN, Nat.add_zero]; rfl), ⟨?_, ?_, ?_, ?_⟩, ?_⟩
    · simp (disch := first | exact cs_0 | exact cs_1 _ | exact cs_2 _ _ | exact cs_3 _ _ _ | exact cs_4 _ _ _ _ | exact j_one_i _ | exact j_one_r _ | exact j_one_n | omega) only [va_up_self, va_up_ne]
      rfl
    · exact isRing_v (isRing_fr hr fun a q1 q2 => va_up_ne _ _ (by omega)) (va_up_ne _ _ (by omega)) (va_up_ne _ _ (by omega)) (va_up_ne _ _ (by omega)) fun p w hw => by unfold od; rw [va_up_ne _ _ (by omega)]; rfl
    · exact isShip_v (isShip_fr hs1 fun a q1 q2 => va_up_ne _ _ (by omega)) fun j hj => va_up_ne _ _ (by omega)
    · exact isShip_v (isShip_fr hs2 fun a q1 q2 => va_up_ne _ _ (by omega)) fun j hj => va_up_ne _ _ (by omega)
    · exact sm_up sm_rfl (by omega)
  | succ n ih =>
    intro p q w M hp h1 hb hl h4 u1 u2 p1 p2
    have hc := t_can (X := X) (d := d) (h := j_h0 h) hb h1 (by omega) hl (h4 p h1 (by omega)) u1 u2 p1 p2
    have hb' := hb
    obtain ⟨a0, hr, -⟩ := hb'
    have hr' := hr
    obtain ⟨K0, K1, K2, K3, K4, b0, b1, b2, b3, b4, b5, b6⟩ := hr'
    have k4 := (b6 p h1 (by omega)).2.2.2.2
    rw [e43_10]
    by_cases c : knows w p = true
    · rw [if_pos c] at hc
      obtain ⟨M2, hM2⟩ : ∃ M2, M2 = va_up M (b + 1 + 5) (.inl (0, 32, .inl (va_up K4 (p % 32) (zN 0)))) := ⟨_, rfl⟩
      have g1 : isRing M2 (b + 1) (sp0 w p) := by
        refine ⟨K0, K1, K2, K3, va_up K4 (p % 32) (zN 0), ?_, ?_, ?_, ?_, ?_, ?_, ?_⟩
        · rw [hM2, va_up_ne _ _ (by omega), b0, sp0_out (by omega), sp0_out (by omega), sp0_out (by omega)]
        · rw [hM2, va_up_ne _ _ (by omega), b1]
        · rw [hM2, va_up_ne _ _ (by omega), b2]
        · rw [hM2, va_up_ne _ _ (by omega), b3]
        · rw [hM2, va_up_ne _ _ (by omega), b4]
        · rw [hM2, va_up_self]
        · intro p' q1 q2
          rw [sp0_out (by omega)] at q1 q2
          obtain ⟨k0, k1, k2, k3, k4'⟩ := b6 p' q1 q2
          rw [sp0_od (by omega), sp0_od (by omega), sp0_od (by omega), sp0_od (by omega), sp0_od4]
          refine ⟨k0, k1, k2, k3, ?_⟩
          unfold va_up
          split
          · rfl
          · exact k4'
      obtain ⟨g2, g3⟩ := isSt_ring (M' := M2) (v' := sp0 w p) hb g1 (fun a q => by rw [hM2, va_up_ne _ _ (by omega)]) (fun j hj => sp0_out (by omega)) (sp0_out (by omega))
      have s1 := sp0_out (v := w) (p := p) (j := 1) (by omega)
      have s2 := sp0_out (v := w) (p := p) (j := 2) (by omega)
      obtain ⟨M3, f1, f2, f3⟩ := ih (p + 1) (q + bits (od w p 4)) (sp0 w p) M2 (by omega) (by omega) g2 (by omega) (fun p' q1 q2 => by
        rw [sp0_od4]
        split
        · omega
        · exact h4 p' (by omega) (by omega)) (by rw [sp0_out (by omega)]; exact u1) (by rw [sp0_out (by omega)]; exact u2) (by rw [sp0_out (by omega)]; exact p1) (by rw [sp0_out (by omega)]; exact p2)
      have er : rprN (n + 1) p w = (bits (od w p 4) + (rprN n (p + 1) (sp0 w p)).1, (rprN n (p + 1) (sp0 w p)).2) := by
        show (if knows w p then _ else _) = _
        rw [if_pos c]
      rw [er]
      rw [sp0_out (j := 3) (by omega)] at f2
      rw [Nat.add_assoc] at f1 f2
      refine ⟨M3, ?_, f2, sm_trans g3 f3⟩
      have tb := t_bits (X := X) (d := d + 3) (M := M) (h := j_h0 (j_h0 h)) (h4 p h1 (by omega))
      have hM2' := hM2.symm
      simp (disch := first | exact cs_0 | exact cs_1 _ | exact cs_2 _ _ | exact cs_3 _ _ _ | exact cs_4 _ _ _ _ | exact j_one_i _ | exact j_one_r _ | exact j_one_n | omega) only [e43_0, e43_1, e43_2, e43_3, e43_6, e43_9, e43_11, e43_12, e43_15, e43_18, e43_21, e43_22, e43_23, e43_26, e43_29, e43_30, e43_31, e43_34, e43_35, e43_38, e43_39, e43_40, e43_43, e43_46, e43_47, e43_47r, e43_48, e43_51, e43_52, e43_53, e43_56, e43_57, e15_0, e15_1, e15_4, e15_5, e15_6, e15_9, e15_10, e15_11, e15_14, e15_15, e15_16, e15_19, e15_20, e15_21, e15_22, e15_23, e1_0, e1_1, e1_3, e1_4, q_k_v, q_k_n, q_k_x, q_kc_v, q_kc_n, q_kc_x, q_rc, q_eq_t, q_eq_f, q_eq_nm, q_eq_mn, q_eq_mt, q_eq_mf, q_lt_t, q_lt_f, q_lt_mn, q_lt_nm, q_le_t, q_le_f, q_le_mn, q_le_nm, q_ac_t, q_ac_f, q_dv_n, q_rm_n, q_ld_n, q_lB_n, q_lJ_n, q_st_n, q_sB_n, q_sJ_n, q_sQ_n, q_cp_n, zN_add, zN_mul, zN_sub, zN_subm, zM_sub, zN_and, va_up_self, va_up_ne, j_add0, j_addt, ne_eq, not_false_eq_true, not_true_eq_false, Nat.reduceAdd, Nat.reduceSub, Nat.reduceMul, Nat.reduceMod, Nat.reduceEqDiff, q_g0_0, q_p0_0, q_g0_1, q_p0_1, q_g0_2, q_p0_2, q_g0_3, q_p0_3, q_g0_4, q_p0_4, q_g0_5, q_p0_5, q_g0_6, q_p0_6, q_g0_7, q_p0_7, q_g1_0, q_p1_0, q_g1_1, q_p1_1, q_g1_2, q_p1_2, q_g1_3, q_p1_3, q_g1_4, q_p1_4, q_g1_5, q_p1_5, q_g1_6, q_p1_6, q_g2_0, q_p2_0, q_g2_1, q_p2_1, q_g2_2, q_p2_2, q_g2_3, q_p2_3, q_g3_0, q_p3_0, q_g3_1, q_p3_1, q_g3_2, q_p3_2, q_g3_3, q_p3_3, q_g3_4, q_p3_4, q_g3_5, q_p3_5, q_g3_6, q_p3_6, q_g4_0, q_p4_0, q_g4_1, q_p4_1, q_g4_2, q_p4_2, q_g4_3, q_p4_3, q_g4_4, q_p4_4, q_g5_0, q_p5_0, q_g5_1, q_p5_1, q_g5_2, q_p5_2, q_g5_3, q_p5_3, q_g5_4, q_p5_4, q_g5_5, q_p5_5, q_g5_6, q_p5_6, q_g5_7, q_p5_7, q_g5_8, q_p5_8, q_g5_9, q_p5_9, q_g5_10, q_p5_10, q_g5_11, q_p5_11, q_g5_12, q_p5_12, q_g5_13, q_p5_13, q_g5_14, q_p5_14, q_g5_15, q_p5_15, a0, b0, b5, hc, k4, tb] at hM2' ⊢
      rw [hM2']
      exact f1
    · rw [if_neg c] at hc
      have er : rprN (n + 1) p w = rprN n (p + 1) w := by
        show (if knows w p then _ else _) = _
        rw [if_neg c]
      rw [er]
      obtain ⟨M3, f1, f2, f3⟩ := ih (p + 1) q w M (by omega) (by omega) hb hl h4 u1 u2 p1 p2
      refine ⟨M3, ?_, f2, f3⟩
      simp (disch := first | exact cs_0 | exact cs_1 _ | exact cs_2 _ _ | exact cs_3 _ _ _ | exact cs_4 _ _ _ _ | exact j_one_i _ | exact j_one_r _ | exact j_one_n | omega) only [e43_0, e43_1, e43_2, e43_3, e43_6, e43_9, e43_11, e43_12, e43_15, e43_18, e43_21, e43_22, e43_23, e43_26, e43_29, e43_30, e43_31, e43_34, e43_35, e43_38, e43_39, e43_40, e43_43, e43_46, e43_47, e43_47r, e43_48, e43_51, e43_52, e43_53, e43_56, e43_57, e15_0, e15_1, e15_4, e15_5, e15_6, e15_9, e15_10, e15_11, e15_14, e15_15, e15_16, e15_19, e15_20, e15_21, e15_22, e15_23, e1_0, e1_1, e1_3, e1_4, q_k_v, q_k_n, q_k_x, q_kc_v, q_kc_n, q_kc_x, q_rc, q_eq_t, q_eq_f, q_eq_nm, q_eq_mn, q_eq_mt, q_eq_mf, q_lt_t, q_lt_f, q_lt_mn, q_lt_nm, q_le_t, q_le_f, q_le_mn, q_le_nm, q_ac_t, q_ac_f, q_dv_n, q_rm_n, q_ld_n, q_lB_n, q_lJ_n, q_st_n, q_sB_n, q_sJ_n, q_sQ_n, q_cp_n, zN_add, zN_mul, zN_sub, zN_subm, zM_sub, zN_and, va_up_self, va_up_ne, j_add0, j_addt, ne_eq, not_false_eq_true, not_true_eq_false, Nat.reduceAdd, Nat.reduceSub, Nat.reduceMul, Nat.reduceMod, Nat.reduceEqDiff, q_g0_0, q_p0_0, q_g0_1, q_p0_1, q_g0_2, q_p0_2, q_g0_3, q_p0_3, q_g0_4, q_p0_4, q_g0_5, q_p0_5, q_g0_6, q_p0_6, q_g0_7, q_p0_7, q_g1_0, q_p1_0, q_g1_1, q_p1_1, q_g1_2, q_p1_2, q_g1_3, q_p1_3, q_g1_4, q_p1_4, q_g1_5, q_p1_5, q_g1_6, q_p1_6, q_g2_0, q_p2_0, q_g2_1, q_p2_1, q_g2_2, q_p2_2, q_g2_3, q_p2_3, q_g3_0, q_p3_0, q_g3_1, q_p3_1, q_g3_2, q_p3_2, q_g3_3, q_p3_3, q_g3_4, q_p3_4, q_g3_5, q_p3_5, q_g3_6, q_p3_6, q_g4_0, q_p4_0, q_g4_1, q_p4_1, q_g4_2, q_p4_2, q_g4_3, q_p4_3, q_g4_4, q_p4_4, q_g5_0, q_p5_0, q_g5_1, q_p5_1, q_g5_2, q_p5_2, q_g5_3, q_p5_3, q_g5_4, q_p5_4, q_g5_5, q_p5_5, q_g5_6, q_p5_6, q_g5_7, q_p5_7, q_g5_8, q_p5_8, q_g5_9, q_p5_9, q_g5_10, q_p5_10, q_g5_11, q_p5_11, q_g5_12, q_p5_12, q_g5_13, q_p5_13, q_g5_14, q_p5_14, q_g5_15, q_p5_15, a0, b0, b5, hc, f1]
end
