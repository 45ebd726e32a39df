/-! the class's fullness -/
theorem dd_all : ∀ a, a < 33 → ∀ b, b < 33 → 4 ≤ b → FP.ddiv (FP.i2d (zN a)) (FP.i2d (zN b)) &&& 0x7fffffffffffffff ≤ 0x7ff0000000000000 := by decide +kernel
theorem dc_all : ∀ a, a < 33 → ∀ b, b < 33 → 4 ≤ b → Op.cmpValue (FP.dcmp (FP.ddiv (FP.i2d (zN a)) (FP.i2d (zN b))) (FP.ddiv (FP.i2d (zN a)) (FP.i2d (zN b)))) .l = zN 0 := by decide +kernel
def fulF (v : rw_) : UInt64 := FP.ddiv (FP.i2d (zN (v 2 - v 1))) (FP.i2d (zN (v 0)))
section
variable {X : jX} {d : Nat} {M : jM} {h : jH} {v : rw_} {cnt ln B : Nat} {u : Nat → rw_} {tx : Nat → Nat}
theorem o_full (hO : isO M v cnt u ln tx) (hv : okV v B) (hB : B < 1000000000) :
    Rn X (d + 7) 80 0 [some (.ref 0)] [] M h = some (.inl (some (.double (fulF v))), M, h) := by
  obtain ⟨q0, q1, q2, q3, q4, q5, q6, q7⟩ := id hv
  have a0 := isJ_0 hO.1
  have hst := isJ_st hO.1
  have a1 := isSt_1 hst
  obtain ⟨K0, K1, K2, K3, K4, b0, -⟩ := isSt_2 hst
  have hn := dd_all (v 2 - v 1) (by omega) (v 0) (by omega) q0
  have e := fun (LS : jL) (ST : List Value) (M : jM) (h : jH) => e80_22 (X := X) (d := d + 7) (LS := LS) (ST := ST) (M := M) (h := h) hn
  simp (disch := first | exact cs_0 | exact cs_1 _ | exact cs_2 _ _ | exact cs_3 _ _ _ | exact cs_4 _ _ _ _ | exact j_one_i _ | exact j_one_r _ | exact j_one_n | omega) only [e80_0, e80_1, e80_4, e80_7, e80_10, e80_11, e80_12, e80_15, e80_18, e80_21, e80_23, e4_0, e4_1, e4_4, e4_5, e4_8, e4_9, q_k_v, q_k_n, q_k_x, q_kc_v, q_kc_n, q_kc_x, q_rc, q_eq_t, q_eq_f, q_eq_nm, q_eq_mn, q_eq_mt, q_eq_mf, q_lt_t, q_lt_f, q_lt_mn, q_lt_nm, q_le_t, q_le_f, q_le_mn, q_le_nm, q_ac_t, q_ac_f, q_dv_n, q_rm_n, q_ld_n, q_lB_n, q_lJ_n, q_st_n, q_sB_n, q_sJ_n, q_sQ_n, q_cp_n, zN_add, zN_mul, zN_sub, zN_subm, zM_sub, zN_and, va_up_self, va_up_ne, j_add0, j_addt, ne_eq, not_false_eq_true, not_true_eq_false, Nat.reduceAdd, Nat.reduceSub, Nat.reduceMul, Nat.reduceMod, Nat.reduceEqDiff, q_g0_0, q_p0_0, q_g0_1, q_p0_1, q_g0_2, q_p0_2, q_g0_3, q_p0_3, q_g0_4, q_p0_4, q_g0_5, q_p0_5, q_g0_6, q_p0_6, q_g0_7, q_p0_7, q_g1_0, q_p1_0, q_g1_1, q_p1_1, q_g1_2, q_p1_2, q_g1_3, q_p1_3, q_g1_4, q_p1_4, q_g1_5, q_p1_5, q_g1_6, q_p1_6, q_g2_0, q_p2_0, q_g2_1, q_p2_1, q_g2_2, q_p2_2, q_g2_3, q_p2_3, q_g3_0, q_p3_0, q_g3_1, q_p3_1, q_g3_2, q_p3_2, q_g3_3, q_p3_3, q_g3_4, q_p3_4, q_g3_5, q_p3_5, q_g3_6, q_p3_6, q_g4_0, q_p4_0, q_g4_1, q_p4_1, q_g4_2, q_p4_2, q_g4_3, q_p4_3, q_g4_4, q_p4_4, q_g5_0, q_p5_0, q_g5_1, q_p5_1, q_g5_2, q_p5_2, q_g5_3, q_p5_3, q_g5_4, q_p5_4, q_g5_5, q_p5_5, q_g5_6, q_p5_6, q_g5_7, q_p5_7, q_g5_8, q_p5_8, q_g5_9, q_p5_9, q_g5_10, q_p5_10, q_g5_11, q_p5_11, q_g5_12, q_p5_12, q_g5_13, q_p5_13, q_g5_14, q_p5_14, q_g5_15, q_p5_15, a0, a1, b0, e]
  rfl
end
