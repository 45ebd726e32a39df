/-! the law's snaps and links -/
theorem q_lt_mm {X : jX} {d i p1 p2 : Nat} {LS : jL} {ST : List Value} {M : jM} {h : jH} {a b : Nat} (e : a ≤ b) (ha : a < 2147483648) (hb : b < 2147483648) : q_lt X (zM a) (zM b) d i p1 p2 LS ST M h = Rn X d i p2 LS ST M h := if_neg fun q => Nat.not_lt.mpr e ((zM_lt ha hb).mp q)
section
variable {X : jX} {d : Nat} {M : jM} {h : jH} {v : rw_} {cnt ln B : Nat} {u : Nat → rw_} {tx : Nat → Nat} {H : Nat → rw_}
theorem jT_1 (h : jH) : j_thr h = jT 1 h := rfl
theorem g_snaps {s : Nat} (hG : isG M v cnt u ln tx B H) (hB : B < 1000000000) (hs : s < 2) : ∃ M' v' cnt' u' k, k ≤ 1 ∧ Rn X (d + 9) 122 0 [some (.ref 0), some (.int (zN s)), none, none, none] [] M h = some (.inl (some (.int (zN 1))), M', jT k h) ∧ isG M' v' cnt' u' ln tx B H ∧ sm M M' 0 70 := by
  obtain ⟨q0, q1, q2, q3, q4, q5, q6, q7⟩ := id hG.2.1.1
  have hS := okV_s hG.2.1.1 hs
  obtain ⟨z1, z2, z3, z4, -⟩ := id hS
  have hz := okV_s hG.2.1.1 (s := 1 - s) (by omega)
  obtain ⟨o1, o2, o3, o4, -⟩ := id hz
  by_cases c : v (164 + 21 * s + 1) = 1
  · obtain ⟨M1, e1, G1, s1⟩ := g_snap (X := X) (d := d) (h := j_h0 h) hG hB hs c
    obtain ⟨w, hw⟩ : ∃ w, w = snF v (164 + 21 * s) := ⟨_, rfl⟩
    have e : ∀ j, j ≠ 1 → j ≠ 164 + 21 * s + 4 → (j < 164 + 21 * s + 13 ∨ 164 + 21 * s + 21 ≤ j) → w j = v j := fun j l0 l1 l2 => by
      rw [hw]
      unfold snF
      rw [va_up_ne _ _ l0]
      unfold snR
      rw [if_neg l1, if_neg (by omega)]
    have w0 := e 0 (by omega) (by omega) (by omega)
    have w2 := e 2 (by omega) (by omega) (by omega)
    have wt := e (164 + 21 * s) (by omega) (by omega) (by omega)
    have wl := e (164 + 21 * s + 1) (by omega) (by omega) (by omega)
    have w4 : w (164 + 21 * s + 4) = v (164 + 21 * s) := by
      rw [hw]
      unfold snF
      rw [va_up_ne _ _ (by omega)]
      exact if_pos rfl
    have w1 : w 1 = min (snR v (164 + 21 * s) 168) (snR v (164 + 21 * s) 189) := by rw [hw]; exact va_up_self _ _ _
    have wm : min (snR v (164 + 21 * s) 168) (snR v (164 + 21 * s) 189) = min (v (164 + 21 * s)) (v (164 + 21 * (1 - s) + 4)) := by
      obtain rfl | rfl : s = 0 ∨ s = 1 := by omega
      · show min (v 164) (v 189) = min (v 164) (v 189)
        rfl
      · show min (v 168) (v 185) = min (v 185) (v 168)
        exact Nat.min_comm _ _
    rw [← hw] at G1
    rw [← w1] at e1
    have hr : roomI v s = zN (v 0 - (v 2 - w 1)) := by
      unfold roomI
      rw [← wm, ← w1, zN_sub (by omega), zN_sub (by omega)]
    refine ⟨M1, w, _, _, 0, by omega, ?_, G1, s1⟩
    rw [jT_0]
    have er := fun (h : jH) => g_room (X := X) (d := d) hs hG hB h
    rw [hr] at er
    simp (disch := first | exact cs_0 | exact cs_1 _ | exact cs_2 _ _ | exact cs_3 _ _ _ | exact cs_4 _ _ _ _ | exact j_one_i _ | exact j_one_r _ | exact j_one_n | assumption | omega) only [e122_0, e122_1, e122_2, e122_5, e122_6, e122_7, e122_8, e122_11, e122_12, e122_13, e122_14, e122_17, e122_19, e122_20, e122_21, e122_22, e122_25, e122_28, e122_30, e122_32, e122_35, e122_36, e122_37, e122_40, e122_41, e122_44, e122_45, e122_48, e122_49, e122_50, e122_52, e122_53, e122_54, e122_57, e122_58, e122_59, e122_62, e122_64, e122_67, e122_68, e122_69, e122_70, e122_73, e122_74, e122_75, e122_76, e122_79, e122_82, e122_83, e122_84, e122_87, e122_88, e122_89, e122_92, e122_93, e122_94, e122_97, e122_98, e122_101, e122_102, q_k_v, q_k_n, q_k_x, q_kc_v, q_kc_n, q_kc_x, q_rc, q_eq_t, q_eq_f, q_eq_nm, q_eq_mn, q_eq_mt, q_eq_mf, q_lt_t, q_lt_f, q_lt_mn, q_lt_nm, q_le_t, q_le_f, q_le_mn, q_le_nm, q_ac_t, q_ac_f, q_dv_n, q_rm_n, q_ld_n, q_lB_n, q_lJ_n, q_st_n, q_sB_n, q_sJ_n, q_sQ_n, q_cp_n, zN_add, zN_mul, zN_sub, zN_subm, zM_sub, zN_and, va_up_self, va_up_ne, j_add0, j_addt, ne_eq, not_false_eq_true, not_true_eq_false, Nat.reduceAdd, Nat.reduceSub, Nat.reduceMul, Nat.reduceMod, Nat.reduceEqDiff, q_g0_0, q_p0_0, q_g0_1, q_p0_1, q_g0_2, q_p0_2, q_g0_3, q_p0_3, q_g0_4, q_p0_4, q_g0_5, q_p0_5, q_g0_6, q_p0_6, q_g0_7, q_p0_7, q_g1_0, q_p1_0, q_g1_1, q_p1_1, q_g1_2, q_p1_2, q_g1_3, q_p1_3, q_g1_4, q_p1_4, q_g1_5, q_p1_5, q_g1_6, q_p1_6, q_g2_0, q_p2_0, q_g2_1, q_p2_1, q_g2_2, q_p2_2, q_g2_3, q_p2_3, q_g3_0, q_p3_0, q_g3_1, q_p3_1, q_g3_2, q_p3_2, q_g3_3, q_p3_3, q_g3_4, q_p3_4, q_g3_5, q_p3_5, q_g3_6, q_p3_6, q_g4_0, q_p4_0, q_g4_1, q_p4_1, q_g4_2, q_p4_2, q_g4_3, q_p4_3, q_g4_4, q_p4_4, q_g5_0, q_p5_0, q_g5_1, q_p5_1, q_g5_2, q_p5_2, q_g5_3, q_p5_3, q_g5_4, q_p5_4, q_g5_5, q_p5_5, q_g5_6, q_p5_6, q_g5_7, q_p5_7, q_g5_8, q_p5_8, q_g5_9, q_p5_9, q_g5_10, q_p5_10, q_g5_11, q_p5_11, q_g5_12, q_p5_12, q_g5_13, q_p5_13, q_g5_14, q_p5_14, q_g5_15, q_p5_15, g_v1 hG hB, er, e1, g_s2 hs G1 hB, g_v1 G1 hB, g_s1 hs G1 hB, g_s0 hs G1 hB, g_v0 G1 hB, g_v3 G1 hB, w0, w2, wl, c]
  · have c0 : v (164 + 21 * s + 1) = 0 := by omega
    refine ⟨M, v, cnt, u, 1, by omega, ?_, hG, sm_rfl⟩
    rw [← jT_1]
    simp (disch := first | exact cs_0 | exact cs_1 _ | exact cs_2 _ _ | exact cs_3 _ _ _ | exact cs_4 _ _ _ _ | exact j_one_i _ | exact j_one_r _ | exact j_one_n | assumption | omega) only [e122_0, e122_1, e122_2, e122_5, e122_6, e122_7, e122_8, e122_11, e122_12, e122_13, e122_14, e122_17, e122_19, e122_20, e122_21, e122_22, e122_25, e122_28, e122_30, e122_32, e122_35, e122_36, e122_37, e122_40, e122_41, e122_44, e122_45, e122_48, e122_49, e122_50, e122_52, e122_53, e122_54, e122_57, e122_58, e122_59, e122_62, e122_64, e122_67, e122_68, e122_69, e122_70, e122_73, e122_74, e122_75, e122_76, e122_79, e122_82, e122_83, e122_84, e122_87, e122_88, e122_89, e122_92, e122_93, e122_94, e122_97, e122_98, e122_101, e122_102, q_k_v, q_k_n, q_k_x, q_kc_v, q_kc_n, q_kc_x, q_rc, q_eq_t, q_eq_f, q_eq_nm, q_eq_mn, q_eq_mt, q_eq_mf, q_lt_t, q_lt_f, q_lt_mn, q_lt_nm, q_le_t, q_le_f, q_le_mn, q_le_nm, q_ac_t, q_ac_f, q_dv_n, q_rm_n, q_ld_n, q_lB_n, q_lJ_n, q_st_n, q_sB_n, q_sJ_n, q_sQ_n, q_cp_n, zN_add, zN_mul, zN_sub, zN_subm, zM_sub, zN_and, va_up_self, va_up_ne, j_add0, j_addt, ne_eq, not_false_eq_true, not_true_eq_false, Nat.reduceAdd, Nat.reduceSub, Nat.reduceMul, Nat.reduceMod, Nat.reduceEqDiff, q_g0_0, q_p0_0, q_g0_1, q_p0_1, q_g0_2, q_p0_2, q_g0_3, q_p0_3, q_g0_4, q_p0_4, q_g0_5, q_p0_5, q_g0_6, q_p0_6, q_g0_7, q_p0_7, q_g1_0, q_p1_0, q_g1_1, q_p1_1, q_g1_2, q_p1_2, q_g1_3, q_p1_3, q_g1_4, q_p1_4, q_g1_5, q_p1_5, q_g1_6, q_p1_6, q_g2_0, q_p2_0, q_g2_1, q_p2_1, q_g2_2, q_p2_2, q_g2_3, q_p2_3, q_g3_0, q_p3_0, q_g3_1, q_p3_1, q_g3_2, q_p3_2, q_g3_3, q_p3_3, q_g3_4, q_p3_4, q_g3_5, q_p3_5, q_g3_6, q_p3_6, q_g4_0, q_p4_0, q_g4_1, q_p4_1, q_g4_2, q_p4_2, q_g4_3, q_p4_3, q_g4_4, q_p4_4, q_g5_0, q_p5_0, q_g5_1, q_p5_1, q_g5_2, q_p5_2, q_g5_3, q_p5_3, q_g5_4, q_p5_4, q_g5_5, q_p5_5, q_g5_6, q_p5_6, q_g5_7, q_p5_7, q_g5_8, q_p5_8, q_g5_9, q_p5_9, q_g5_10, q_p5_10, q_g5_11, q_p5_11, q_g5_12, q_p5_12, q_g5_13, q_p5_13, q_g5_14, q_p5_14, q_g5_15, q_p5_15, j_addt, g_v1 hG hB, g_room hs hG hB, g_snapx hG hs c0, g_s2 hs hG hB, c0]
theorem g_links {s : Nat} (hG : isG M v cnt u ln tx B H) (hB : B < 1000000000) (hs : s < 2) : ∃ M' v' cnt' u', Rn X (d + 9) 123 0 [some (.ref 0), some (.int (zN s)), none] [] M h = some (.inl (some (.int (zN 1))), M', jT 1 h) ∧ isG M' v' cnt' u' ln tx B H ∧ sm M M' 0 70 := by
  have hS := okV_s hG.2.1.1 hs
  obtain ⟨z1, z2, z3, z4, -⟩ := id hS
  obtain ⟨q0, q1, q2, q3, q4, q5, x, y⟩ := id hG.2.1.1
  have x4 : v 165 < 2 := x.2.2.2.1
  have y4 : v 186 < 2 := y.2.2.2.1
  by_cases c : v (164 + 21 * s + 1) = 1
  · obtain ⟨M1, e1, G1, s1⟩ := g_link (X := X) (d := d) (h := j_h0 (j_thr h)) (up := 0) hG hB hs (by omega) (by omega)
    refine ⟨M1, _, _, _, ?_, G1, s1⟩
    rw [← jT_1]
    have wl : lkR v (164 + 21 * s) 0 (164 + 21 * s + 1) = 0 := va_up_self _ _ _
    have l0 : lkR v (164 + 21 * s) 0 165 < 2 := by
      unfold lkR va_up
      split <;> omega
    have l1 : lkR v (164 + 21 * s) 0 186 < 2 := by
      unfold lkR va_up
      split <;> omega
    simp (disch := first | exact cs_0 | exact cs_1 _ | exact cs_2 _ _ | exact cs_3 _ _ _ | exact cs_4 _ _ _ _ | exact j_one_i _ | exact j_one_r _ | exact j_one_n | assumption | omega) only [e123_0, e123_1, e123_2, e123_3, e123_6, e123_7, e123_10, e123_11, e123_14, e123_15, e123_16, e123_17, e123_18, e123_19, e123_22, e123_24, e123_27, e123_28, e123_29, e123_30, e123_33, e123_34, e123_37, e123_38, e123_41, e123_42, e123_43, e123_44, e123_47, e123_48, e123_49, e123_50, e123_53, e123_54, e123_57, e123_58, e123_59, e123_60, e123_63, e123_64, e123_67, e123_68, e123_71, e123_72, e123_75, e123_76, e123_79, e123_80, q_k_v, q_k_n, q_k_x, q_kc_v, q_kc_n, q_kc_x, q_rc, q_eq_t, q_eq_f, q_eq_nm, q_eq_mn, q_eq_mt, q_eq_mf, q_lt_t, q_lt_f, q_lt_mn, q_lt_nm, q_le_t, q_le_f, q_le_mn, q_le_nm, q_ac_t, q_ac_f, q_dv_n, q_rm_n, q_ld_n, q_lB_n, q_lJ_n, q_st_n, q_sB_n, q_sJ_n, q_sQ_n, q_cp_n, zN_add, zN_mul, zN_sub, zN_subm, zM_sub, zN_and, va_up_self, va_up_ne, j_add0, j_addt, ne_eq, not_false_eq_true, not_true_eq_false, Nat.reduceAdd, Nat.reduceSub, Nat.reduceMul, Nat.reduceMod, Nat.reduceEqDiff, q_g0_0, q_p0_0, q_g0_1, q_p0_1, q_g0_2, q_p0_2, q_g0_3, q_p0_3, q_g0_4, q_p0_4, q_g0_5, q_p0_5, q_g0_6, q_p0_6, q_g0_7, q_p0_7, q_g1_0, q_p1_0, q_g1_1, q_p1_1, q_g1_2, q_p1_2, q_g1_3, q_p1_3, q_g1_4, q_p1_4, q_g1_5, q_p1_5, q_g1_6, q_p1_6, q_g2_0, q_p2_0, q_g2_1, q_p2_1, q_g2_2, q_p2_2, q_g2_3, q_p2_3, q_g3_0, q_p3_0, q_g3_1, q_p3_1, q_g3_2, q_p3_2, q_g3_3, q_p3_3, q_g3_4, q_p3_4, q_g3_5, q_p3_5, q_g3_6, q_p3_6, q_g4_0, q_p4_0, q_g4_1, q_p4_1, q_g4_2, q_p4_2, q_g4_3, q_p4_3, q_g4_4, q_p4_4, q_g5_0, q_p5_0, q_g5_1, q_p5_1, q_g5_2, q_p5_2, q_g5_3, q_p5_3, q_g5_4, q_p5_4, q_g5_5, q_p5_5, q_g5_6, q_p5_6, q_g5_7, q_p5_7, q_g5_8, q_p5_8, q_g5_9, q_p5_9, q_g5_10, q_p5_10, q_g5_11, q_p5_11, q_g5_12, q_p5_12, q_g5_13, q_p5_13, q_g5_14, q_p5_14, q_g5_15, q_p5_15, j_addt, g_s2 hs hG hB, c, g_linkx (up := 1) hG hs (by omega) c, e1, g_a2 G1 hB, g_b2 G1 hB, g_s2 hs G1 hB, wl]
  · have c0 : v (164 + 21 * s + 1) = 0 := by omega
    obtain ⟨M1, e1, G1, s1⟩ := g_link (X := X) (d := d) (h := j_h0 (j_thr h)) (up := 1) hG hB hs (by omega) (by omega)
    refine ⟨M1, _, _, _, ?_, G1, s1⟩
    rw [← jT_1]
    have wl : lkR v (164 + 21 * s) 1 (164 + 21 * s + 1) = 1 := va_up_self _ _ _
    have l0 : lkR v (164 + 21 * s) 1 165 < 2 := by
      unfold lkR va_up
      split <;> omega
    have l1 : lkR v (164 + 21 * s) 1 186 < 2 := by
      unfold lkR va_up
      split <;> omega
    simp (disch := first | exact cs_0 | exact cs_1 _ | exact cs_2 _ _ | exact cs_3 _ _ _ | exact cs_4 _ _ _ _ | exact j_one_i _ | exact j_one_r _ | exact j_one_n | assumption | omega) only [e123_0, e123_1, e123_2, e123_3, e123_6, e123_7, e123_10, e123_11, e123_14, e123_15, e123_16, e123_17, e123_18, e123_19, e123_22, e123_24, e123_27, e123_28, e123_29, e123_30, e123_33, e123_34, e123_37, e123_38, e123_41, e123_42, e123_43, e123_44, e123_47, e123_48, e123_49, e123_50, e123_53, e123_54, e123_57, e123_58, e123_59, e123_60, e123_63, e123_64, e123_67, e123_68, e123_71, e123_72, e123_75, e123_76, e123_79, e123_80, q_k_v, q_k_n, q_k_x, q_kc_v, q_kc_n, q_kc_x, q_rc, q_eq_t, q_eq_f, q_eq_nm, q_eq_mn, q_eq_mt, q_eq_mf, q_lt_t, q_lt_f, q_lt_mn, q_lt_nm, q_le_t, q_le_f, q_le_mn, q_le_nm, q_ac_t, q_ac_f, q_dv_n, q_rm_n, q_ld_n, q_lB_n, q_lJ_n, q_st_n, q_sB_n, q_sJ_n, q_sQ_n, q_cp_n, zN_add, zN_mul, zN_sub, zN_subm, zM_sub, zN_and, va_up_self, va_up_ne, j_add0, j_addt, ne_eq, not_false_eq_true, not_true_eq_false, Nat.reduceAdd, Nat.reduceSub, Nat.reduceMul, Nat.reduceMod, Nat.reduceEqDiff, q_g0_0, q_p0_0, q_g0_1, q_p0_1, q_g0_2, q_p0_2, q_g0_3, q_p0_3, q_g0_4, q_p0_4, q_g0_5, q_p0_5, q_g0_6, q_p0_6, q_g0_7, q_p0_7, q_g1_0, q_p1_0, q_g1_1, q_p1_1, q_g1_2, q_p1_2, q_g1_3, q_p1_3, q_g1_4, q_p1_4, q_g1_5, q_p1_5, q_g1_6, q_p1_6, q_g2_0, q_p2_0, q_g2_1, q_p2_1, q_g2_2, q_p2_2, q_g2_3, q_p2_3, q_g3_0, q_p3_0, q_g3_1, q_p3_1, q_g3_2, q_p3_2, q_g3_3, q_p3_3, q_g3_4, q_p3_4, q_g3_5, q_p3_5, q_g3_6, q_p3_6, q_g4_0, q_p4_0, q_g4_1, q_p4_1, q_g4_2, q_p4_2, q_g4_3, q_p4_3, q_g4_4, q_p4_4, q_g5_0, q_p5_0, q_g5_1, q_p5_1, q_g5_2, q_p5_2, q_g5_3, q_p5_3, q_g5_4, q_p5_4, q_g5_5, q_p5_5, q_g5_6, q_p5_6, q_g5_7, q_p5_7, q_g5_8, q_p5_8, q_g5_9, q_p5_9, q_g5_10, q_p5_10, q_g5_11, q_p5_11, q_g5_12, q_p5_12, q_g5_13, q_p5_13, q_g5_14, q_p5_14, q_g5_15, q_p5_15, j_addt, g_s2 hs hG hB, c0, g_linkx (up := 0) hG hs (by omega) c0, e1, g_a2 G1 hB, g_b2 G1 hB, g_s2 hs G1 hB, wl]
end
