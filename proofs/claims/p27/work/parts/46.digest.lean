/-! the class's digest -/
def mx (g : Int64) (x : Int32) : Int64 := 31 * g + x.toInt64
def hO6 (v : rw_) (p : Nat) (g : Int64) : Int64 := [zN (ordN v p 0), zN (ordN v p 1), zN (ordN v p 2), zN (ordN v p 3), zN (ordN v p 4), zN (ordN v p 5)].foldl mx g
def hOs (v : rw_) : Nat → Nat → Int64 → Int64
  | 0, _, g => g
  | n + 1, p, g => hOs v n (p + 1) (hO6 v p g)
def hSh (v : rw_) (t : Nat) (g : Int64) : Int64 := [zN (shN v t 0), zN (shN v t 1), zN (shN v t 2), zN (shN v t 3), zN (shN v t 4), zN (shN v t 5), zN (v (t + 5 + 0)), zN (v (t + 5 + 1)), zN (v (t + 5 + 2)), zN (v (t + 5 + 3)), zN (v (t + 5 + 4)), zN (v (t + 5 + 5)), zN (v (t + 5 + 6)), zN (v (t + 5 + 7))].foldl mx g
def hTo (v : rw_) : Nat → Nat → Int64 → Int64
  | 0, _, g => g
  | n + 1, j, g => hTo v n (j + 1) (mx g (tonsI v (v 2) j))
def hFo (v : rw_) (g : Int64) : Int64 := hTo v 8 0 ([zN (could v 164), zN (could v 185), agrI v].foldl mx g)
def hVa (v : rw_) (g : Int64) : Int64 := [zN (valN v 0), zN (valN v 1), zN (valN v 2), zN (valN v 3), zN (valN v 4), zN (valN v 5), zN (valN v 6)].foldl mx g
def digI (v : rw_) (cnt ln : Nat) : Int64 := mx (hFo v (hSh v 185 (hSh v 164 (hOs v (v 2 - v 1) (v 1) (hVa v (mx 3797 (zN ln))))))) (zN cnt)
section
variable {X : jX} {d : Nat} {M : jM} {h : jH} {v : rw_} {cnt ln B : Nat} {u : Nat → rw_} {tx : Nat → Nat}
theorem t_mix {g : Int64} {x : Int32} : Rn X d 86 0 [some (.long g), none, some (.long x.toInt64), none] [] M h = some (.inl (some (.long (mx g x))), M, h) := by
  simp (disch := first | exact cs_0 | exact cs_1 _ | exact cs_2 _ _ | exact cs_3 _ _ _ | exact cs_4 _ _ _ _ | exact j_one_i _ | exact j_one_r _ | exact j_one_n | omega) only [e86_0, e86_3, e86_4, e86_5, e86_6, e86_7, q_k_v, q_k_n, q_k_x, q_kc_v, q_kc_n, q_kc_x, q_rc, q_eq_t, q_eq_f, q_eq_nm, q_eq_mn, q_eq_mt, q_eq_mf, q_lt_t, q_lt_f, q_lt_mn, q_lt_nm, q_le_t, q_le_f, q_le_mn, q_le_nm, q_ac_t, q_ac_f, q_dv_n, q_rm_n, q_ld_n, q_lB_n, q_lJ_n, q_st_n, q_sB_n, q_sJ_n, q_sQ_n, q_cp_n, zN_add, zN_mul, zN_sub, zN_subm, zM_sub, zN_and, va_up_self, va_up_ne, j_add0, j_addt, ne_eq, not_false_eq_true, not_true_eq_false, Nat.reduceAdd, Nat.reduceSub, Nat.reduceMul, Nat.reduceMod, Nat.reduceEqDiff, q_g0_0, q_p0_0, q_g0_1, q_p0_1, q_g0_2, q_p0_2, q_g0_3, q_p0_3, q_g0_4, q_p0_4, q_g0_5, q_p0_5, q_g0_6, q_p0_6, q_g0_7, q_p0_7, q_g1_0, q_p1_0, q_g1_1, q_p1_1, q_g1_2, q_p1_2, q_g1_3, q_p1_3, q_g1_4, q_p1_4, q_g1_5, q_p1_5, q_g1_6, q_p1_6, q_g2_0, q_p2_0, q_g2_1, q_p2_1, q_g2_2, q_p2_2, q_g2_3, q_p2_3, q_g3_0, q_p3_0, q_g3_1, q_p3_1, q_g3_2, q_p3_2, q_g3_3, q_p3_3, q_g3_4, q_p3_4, q_g3_5, q_p3_5, q_g3_6, q_p3_6, q_g4_0, q_p4_0, q_g4_1, q_p4_1, q_g4_2, q_p4_2, q_g4_3, q_p4_3, q_g4_4, q_p4_4, q_g5_0, q_p5_0, q_g5_1, q_p5_1, q_g5_2, q_p5_2, q_g5_3, q_p5_3, q_g5_4, q_p5_4, q_g5_5, q_p5_5, q_g5_6, q_p5_6, q_g5_7, q_p5_7, q_g5_8, q_p5_8, q_g5_9, q_p5_9, q_g5_10, q_p5_10, q_g5_11, q_p5_11, q_g5_12, q_p5_12, q_g5_13, q_p5_13, q_g5_14, q_p5_14, q_g5_15, q_p5_15]
  rfl
theorem t_mixO (hO : isO M v cnt u ln tx) (hv : okV v B) (hB : B < 1000000000) {g0 : Int64} : ∀ n p (g : Int64) (w : Option Value), p + n = v 2 → v 1 ≤ p → j_one w = true → Rn X (d + 8) 87 14 [some (.ref 0), some (.long g0), none, some (.long g), none, some (.int (zN p)), w] [] M h = some (.inl (some (.long (hOs v n p g))), M, h) := by
  obtain ⟨q0, q1, q2, q3, q4, q5, q6, q7⟩ := id hv
  have a0 := isJ_0 hO.1
  have hst := isJ_st hO.1
  have a1 := isSt_1 hst
  obtain ⟨K0, K1, K2, K3, K4, b0, -⟩ := isSt_2 hst
  intro n
  induction n with
  | zero =>
    intro p g w hp h1 hw
    have hp' : p = v 2 := by omega
    subst hp'
    simp (disch := first | exact cs_0 | exact cs_1 _ | exact cs_2 _ _ | exact cs_3 _ _ _ | exact cs_4 _ _ _ _ | exact j_one_i _ | exact j_one_r _ | exact j_one_n | omega) only [e87_0, e87_1, e87_2, e87_3, e87_6, e87_9, e87_12, e87_14, e87_16, e87_17, e87_20, e87_23, e87_26, e87_29, e87_30, e87_32, e87_34, e87_36, e87_39, e87_40, e87_41, e87_43, e87_45, e87_48, e87_49, e87_52, e87_53, e87_56, e87_59, e87_62, e87_65, e87_66, q_k_v, q_k_n, q_k_x, q_kc_v, q_kc_n, q_kc_x, q_rc, q_eq_t, q_eq_f, q_eq_nm, q_eq_mn, q_eq_mt, q_eq_mf, q_lt_t, q_lt_f, q_lt_mn, q_lt_nm, q_le_t, q_le_f, q_le_mn, q_le_nm, q_ac_t, q_ac_f, q_dv_n, q_rm_n, q_ld_n, q_lB_n, q_lJ_n, q_st_n, q_sB_n, q_sJ_n, q_sQ_n, q_cp_n, zN_add, zN_mul, zN_sub, zN_subm, zM_sub, zN_and, va_up_self, va_up_ne, j_add0, j_addt, ne_eq, not_false_eq_true, not_true_eq_false, Nat.reduceAdd, Nat.reduceSub, Nat.reduceMul, Nat.reduceMod, Nat.reduceEqDiff, q_g0_0, q_p0_0, q_g0_1, q_p0_1, q_g0_2, q_p0_2, q_g0_3, q_p0_3, q_g0_4, q_p0_4, q_g0_5, q_p0_5, q_g0_6, q_p0_6, q_g0_7, q_p0_7, q_g1_0, q_p1_0, q_g1_1, q_p1_1, q_g1_2, q_p1_2, q_g1_3, q_p1_3, q_g1_4, q_p1_4, q_g1_5, q_p1_5, q_g1_6, q_p1_6, q_g2_0, q_p2_0, q_g2_1, q_p2_1, q_g2_2, q_p2_2, q_g2_3, q_p2_3, q_g3_0, q_p3_0, q_g3_1, q_p3_1, q_g3_2, q_p3_2, q_g3_3, q_p3_3, q_g3_4, q_p3_4, q_g3_5, q_p3_5, q_g3_6, q_p3_6, q_g4_0, q_p4_0, q_g4_1, q_p4_1, q_g4_2, q_p4_2, q_g4_3, q_p4_3, q_g4_4, q_p4_4, q_g5_0, q_p5_0, q_g5_1, q_p5_1, q_g5_2, q_p5_2, q_g5_3, q_p5_3, q_g5_4, q_p5_4, q_g5_5, q_p5_5, q_g5_6, q_p5_6, q_g5_7, q_p5_7, q_g5_8, q_p5_8, q_g5_9, q_p5_9, q_g5_10, q_p5_10, q_g5_11, q_p5_11, q_g5_12, q_p5_12, q_g5_13, q_p5_13, q_g5_14, q_p5_14, q_g5_15, q_p5_15, a0, a1, b0, hOs]
  | succ n ih =>
    intro p g w hp h1 hw
    have e0 := o_order (X := X) (d := d) (h := j_h0 h) (w := 0) hO hv hB h1 (by omega) (by omega)
    have e1 := o_order (X := X) (d := d) (h := j_h0 h) (w := 1) hO hv hB h1 (by omega) (by omega)
    have e2 := o_order (X := X) (d := d) (h := j_h0 h) (w := 2) hO hv hB h1 (by omega) (by omega)
    have e3 := o_order (X := X) (d := d) (h := j_h0 h) (w := 3) hO hv hB h1 (by omega) (by omega)
    have e4 := o_order (X := X) (d := d) (h := j_h0 h) (w := 4) hO hv hB h1 (by omega) (by omega)
    have e5 := o_order (X := X) (d := d) (h := j_h0 h) (w := 5) hO hv hB h1 (by omega) (by omega)
    have ih' := ih (p + 1) (hO6 v p g) (some (.int (zN 6))) (by omega) (by omega) rfl
    have em := fun (g : Int64) (x : Int32) => t_mix (X := X) (d := d + 7) (M := M) (h := j_h0 h) (g := g) (x := x)
    unfold hO6 at ih'
    simp only [List.foldl] at ih'
    rw [e87_14]
    simp (disch := first | exact cs_0 | exact cs_1 _ | exact cs_2 _ _ | exact cs_3 _ _ _ | exact cs_4 _ _ _ _ | exact j_one_i _ | exact j_one_r _ | exact j_one_n | omega) only [e87_0, e87_1, e87_2, e87_3, e87_6, e87_9, e87_12, e87_16, e87_17, e87_20, e87_23, e87_26, e87_29, e87_30, e87_32, e87_34, e87_36, e87_39, e87_40, e87_41, e87_43, e87_45, e87_48, e87_49, e87_52, e87_53, e87_56, e87_59, e87_62, e87_65, e87_66, q_k_v, q_k_n, q_k_x, q_kc_v, q_kc_n, q_kc_x, q_rc, q_eq_t, q_eq_f, q_eq_nm, q_eq_mn, q_eq_mt, q_eq_mf, q_lt_t, q_lt_f, q_lt_mn, q_lt_nm, q_le_t, q_le_f, q_le_mn, q_le_nm, q_ac_t, q_ac_f, q_dv_n, q_rm_n, q_ld_n, q_lB_n, q_lJ_n, q_st_n, q_sB_n, q_sJ_n, q_sQ_n, q_cp_n, zN_add, zN_mul, zN_sub, zN_subm, zM_sub, zN_and, va_up_self, va_up_ne, j_add0, j_addt, ne_eq, not_false_eq_true, not_true_eq_false, Nat.reduceAdd, Nat.reduceSub, Nat.reduceMul, Nat.reduceMod, Nat.reduceEqDiff, q_g0_0, q_p0_0, q_g0_1, q_p0_1, q_g0_2, q_p0_2, q_g0_3, q_p0_3, q_g0_4, q_p0_4, q_g0_5, q_p0_5, q_g0_6, q_p0_6, q_g0_7, q_p0_7, q_g1_0, q_p1_0, q_g1_1, q_p1_1, q_g1_2, q_p1_2, q_g1_3, q_p1_3, q_g1_4, q_p1_4, q_g1_5, q_p1_5, q_g1_6, q_p1_6, q_g2_0, q_p2_0, q_g2_1, q_p2_1, q_g2_2, q_p2_2, q_g2_3, q_p2_3, q_g3_0, q_p3_0, q_g3_1, q_p3_1, q_g3_2, q_p3_2, q_g3_3, q_p3_3, q_g3_4, q_p3_4, q_g3_5, q_p3_5, q_g3_6, q_p3_6, q_g4_0, q_p4_0, q_g4_1, q_p4_1, q_g4_2, q_p4_2, q_g4_3, q_p4_3, q_g4_4, q_p4_4, q_g5_0, q_p5_0, q_g5_1, q_p5_1, q_g5_2, q_p5_2, q_g5_3, q_p5_3, q_g5_4, q_p5_4, q_g5_5, q_p5_5, q_g5_6, q_p5_6, q_g5_7, q_p5_7, q_g5_8, q_p5_8, q_g5_9, q_p5_9, q_g5_10, q_p5_10, q_g5_11, q_p5_11, q_g5_12, q_p5_12, q_g5_13, q_p5_13, q_g5_14, q_p5_14, q_g5_15, q_p5_15, a0, a1, b0, e0, e1, e2, e3, e4, e5, em, ih', hw]
    rfl
set_option maxRecDepth 10000 in
theorem t_mixS (hO : isO M v cnt u ln tx) (hv : okV v B) (hB : B < 1000000000) {g : Int64} : Rn X (d + 8) 88 0 [some (.ref 0), some (.long g), none, none, none, none, none] [] M h = some (.inl (some (.long (hSh v 185 (hSh v 164 g)))), M, h) := by
  have a0 := isJ_0 hO.1
  have e := fun (s : Nat) (hs : s < 2) (w : Nat) (hw : w < 6) => o_ship (X := X) (d := d) (h := j_h0 h) hO hv hB hs hw
  have k := fun (s : Nat) (hs : s < 2) (j : Nat) (hj : j < 8) => o_hold (X := X) (d := d) (h := j_h0 h) hO hs hj
  have em := fun (g : Int64) (x : Int32) => t_mix (X := X) (d := d + 7) (M := M) (h := j_h0 h) (g := g) (x := x)
  have e00 := e 0 (by omega) 0 (by omega)
  have e01 := e 0 (by omega) 1 (by omega)
  have e02 := e 0 (by omega) 2 (by omega)
  have e03 := e 0 (by omega) 3 (by omega)
  have e04 := e 0 (by omega) 4 (by omega)
  have e05 := e 0 (by omega) 5 (by omega)
  have e10 := e 1 (by omega) 0 (by omega)
  have e11 := e 1 (by omega) 1 (by omega)
  have e12 := e 1 (by omega) 2 (by omega)
  have e13 := e 1 (by omega) 3 (by omega)
  have e14 := e 1 (by omega) 4 (by omega)
  have e15 := e 1 (by omega) 5 (by omega)
  have k00 := k 0 (by omega) 0 (by omega)
  have k01 := k 0 (by omega) 1 (by omega)
  have k02 := k 0 (by omega) 2 (by omega)
  have k03 := k 0 (by omega) 3 (by omega)
  have k04 := k 0 (by omega) 4 (by omega)
  have k05 := k 0 (by omega) 5 (by omega)
  have k06 := k 0 (by omega) 6 (by omega)
  have k07 := k 0 (by omega) 7 (by omega)
  have k10 := k 1 (by omega) 0 (by omega)
  have k11 := k 1 (by omega) 1 (by omega)
  have k12 := k 1 (by omega) 2 (by omega)
  have k13 := k 1 (by omega) 3 (by omega)
  have k14 := k 1 (by omega) 4 (by omega)
  have k15 := k 1 (by omega) 5 (by omega)
  have k16 := k 1 (by omega) 6 (by omega)
  have k17 := k 1 (by omega) 7 (by omega)
  unfold hSh
  simp only [List.foldl]
  simp (disch := first | exact cs_0 | exact cs_1 _ | exact cs_2 _ _ | exact cs_3 _ _ _ | exact cs_4 _ _ _ _ | exact j_one_i _ | exact j_one_r _ | exact j_one_n | omega) only [e88_0, e88_1, e88_2, e88_3, e88_5, e88_7, e88_8, e88_11, e88_12, e88_14, e88_16, e88_18, e88_21, e88_22, e88_23, e88_25, e88_27, e88_30, e88_31, e88_34, e88_35, e88_38, e88_41, e88_42, e88_44, e88_46, e88_48, e88_51, e88_52, e88_53, e88_55, e88_57, e88_60, e88_61, e88_64, e88_65, e88_68, e88_71, e88_74, e88_77, e88_78, q_k_v, q_k_n, q_k_x, q_kc_v, q_kc_n, q_kc_x, q_rc, q_eq_t, q_eq_f, q_eq_nm, q_eq_mn, q_eq_mt, q_eq_mf, q_lt_t, q_lt_f, q_lt_mn, q_lt_nm, q_le_t, q_le_f, q_le_mn, q_le_nm, q_ac_t, q_ac_f, q_dv_n, q_rm_n, q_ld_n, q_lB_n, q_lJ_n, q_st_n, q_sB_n, q_sJ_n, q_sQ_n, q_cp_n, zN_add, zN_mul, zN_sub, zN_subm, zM_sub, zN_and, va_up_self, va_up_ne, j_add0, j_addt, ne_eq, not_false_eq_true, not_true_eq_false, Nat.reduceAdd, Nat.reduceSub, Nat.reduceMul, Nat.reduceMod, Nat.reduceEqDiff, q_g0_0, q_p0_0, q_g0_1, q_p0_1, q_g0_2, q_p0_2, q_g0_3, q_p0_3, q_g0_4, q_p0_4, q_g0_5, q_p0_5, q_g0_6, q_p0_6, q_g0_7, q_p0_7, q_g1_0, q_p1_0, q_g1_1, q_p1_1, q_g1_2, q_p1_2, q_g1_3, q_p1_3, q_g1_4, q_p1_4, q_g1_5, q_p1_5, q_g1_6, q_p1_6, q_g2_0, q_p2_0, q_g2_1, q_p2_1, q_g2_2, q_p2_2, q_g2_3, q_p2_3, q_g3_0, q_p3_0, q_g3_1, q_p3_1, q_g3_2, q_p3_2, q_g3_3, q_p3_3, q_g3_4, q_p3_4, q_g3_5, q_p3_5, q_g3_6, q_p3_6, q_g4_0, q_p4_0, q_g4_1, q_p4_1, q_g4_2, q_p4_2, q_g4_3, q_p4_3, q_g4_4, q_p4_4, q_g5_0, q_p5_0, q_g5_1, q_p5_1, q_g5_2, q_p5_2, q_g5_3, q_p5_3, q_g5_4, q_p5_4, q_g5_5, q_p5_5, q_g5_6, q_p5_6, q_g5_7, q_p5_7, q_g5_8, q_p5_8, q_g5_9, q_p5_9, q_g5_10, q_p5_10, q_g5_11, q_p5_11, q_g5_12, q_p5_12, q_g5_13, q_p5_13, q_g5_14, q_p5_14, q_g5_15, q_p5_15, e00, e01, e02, e03, e04, e05, e10, e11, e12, e13, e14, e15, k00, k01, k02, k03, k04, k05, k06, k07, k10, k11, k12, k13, k14, k15, k16, k17, em, a0]
theorem t_mixT (hO : isO M v cnt u ln tx) (hv : okV v B) (hB : B < 1000000000) {g0 : Int64} : ∀ n j (g : Int64) (F : Nat → Int32), j + n = 8 → ∃ F' : Nat → Int32, Rn X (d + 8) 89 42 [some (.ref 0), some (.long g0), none, some (.long g), none, some (.int (zN j))] [] (va_up M 17 (.inl (0, 8, .inl F))) h = some (.inl (some (.long (hTo v n j g))), va_up M 17 (.inl (0, 8, .inl F')), h) := by
  have hl : v 2 < 1000000000 := by
    have := hv.2.2.2.2.1
    omega
  have a0 := isJ_0 hO.1
  have hst := isJ_st hO.1
  have a1 := isSt_1 hst
  obtain ⟨K0, K1, K2, K3, K4, b0, -⟩ := isSt_2 hst
  intro n
  induction n with
  | zero =>
    intro j g F hj
    have hj' : j = 8 := by omega
    subst hj'
    refine ⟨F, ?_⟩
    simp (disch := first | exact cs_0 | exact cs_1 _ | exact cs_2 _ _ | exact cs_3 _ _ _ | exact cs_4 _ _ _ _ | exact j_one_i _ | exact j_one_r _ | exact j_one_n | omega) only [e89_0, e89_1, e89_2, e89_3, e89_5, e89_7, e89_8, e89_11, e89_12, e89_13, e89_15, e89_18, e89_19, e89_22, e89_23, e89_26, e89_29, e89_30, e89_31, e89_34, e89_35, e89_38, e89_39, e89_40, e89_42, e89_44, e89_46, e89_49, e89_50, e89_51, e89_52, e89_55, e89_58, e89_61, e89_63, e89_66, e89_67, e89_70, e89_71, e89_74, e89_77, e89_78, q_k_v, q_k_n, q_k_x, q_kc_v, q_kc_n, q_kc_x, q_rc, q_eq_t, q_eq_f, q_eq_nm, q_eq_mn, q_eq_mt, q_eq_mf, q_lt_t, q_lt_f, q_lt_mn, q_lt_nm, q_le_t, q_le_f, q_le_mn, q_le_nm, q_ac_t, q_ac_f, q_dv_n, q_rm_n, q_ld_n, q_lB_n, q_lJ_n, q_st_n, q_sB_n, q_sJ_n, q_sQ_n, q_cp_n, zN_add, zN_mul, zN_sub, zN_subm, zM_sub, zN_and, va_up_self, va_up_ne, j_add0, j_addt, ne_eq, not_false_eq_true, not_true_eq_false, Nat.reduceAdd, Nat.reduceSub, Nat.reduceMul, Nat.reduceMod, Nat.reduceEqDiff, q_g0_0, q_p0_0, q_g0_1, q_p0_1, q_g0_2, q_p0_2, q_g0_3, q_p0_3, q_g0_4, q_p0_4, q_g0_5, q_p0_5, q_g0_6, q_p0_6, q_g0_7, q_p0_7, q_g1_0, q_p1_0, q_g1_1, q_p1_1, q_g1_2, q_p1_2, q_g1_3, q_p1_3, q_g1_4, q_p1_4, q_g1_5, q_p1_5, q_g1_6, q_p1_6, q_g2_0, q_p2_0, q_g2_1, q_p2_1, q_g2_2, q_p2_2, q_g2_3, q_p2_3, q_g3_0, q_p3_0, q_g3_1, q_p3_1, q_g3_2, q_p3_2, q_g3_3, q_p3_3, q_g3_4, q_p3_4, q_g3_5, q_p3_5, q_g3_6, q_p3_6, q_g4_0, q_p4_0, q_g4_1, q_p4_1, q_g4_2, q_p4_2, q_g4_3, q_p4_3, q_g4_4, q_p4_4, q_g5_0, q_p5_0, q_g5_1, q_p5_1, q_g5_2, q_p5_2, q_g5_3, q_p5_3, q_g5_4, q_p5_4, q_g5_5, q_p5_5, q_g5_6, q_p5_6, q_g5_7, q_p5_7, q_g5_8, q_p5_8, q_g5_9, q_p5_9, q_g5_10, q_p5_10, q_g5_11, q_p5_11, q_g5_12, q_p5_12, q_g5_13, q_p5_13, q_g5_14, q_p5_14, q_g5_15, q_p5_15, hTo]
  | succ n ih =>
    intro j g F hj
    obtain ⟨F1, e1⟩ := o_tons (X := X) (d := d) (h := j_h0 h) (p := v 2) (j := j) (isO_17 (F := F) hO) hv hB (by omega) (by omega)
    rw [vu_up] at e1
    obtain ⟨F2, e2⟩ := ih (j + 1) (mx g (tonsI v (v 2) j)) F1 (by omega)
    have em := t_mix (X := X) (d := d + 7) (M := va_up M 17 (.inl (0, 8, .inl F1))) (h := j_h0 h) (g := g) (x := tonsI v (v 2) j)
    refine ⟨F2, ?_⟩
    rw [e89_42]
    simp (disch := first | exact cs_0 | exact cs_1 _ | exact cs_2 _ _ | exact cs_3 _ _ _ | exact cs_4 _ _ _ _ | exact j_one_i _ | exact j_one_r _ | exact j_one_n | omega) only [e89_0, e89_1, e89_2, e89_3, e89_5, e89_7, e89_8, e89_11, e89_12, e89_13, e89_15, e89_18, e89_19, e89_22, e89_23, e89_26, e89_29, e89_30, e89_31, e89_34, e89_35, e89_38, e89_39, e89_40, e89_44, e89_46, e89_49, e89_50, e89_51, e89_52, e89_55, e89_58, e89_61, e89_63, e89_66, e89_67, e89_70, e89_71, e89_74, e89_77, e89_78, q_k_v, q_k_n, q_k_x, q_kc_v, q_kc_n, q_kc_x, q_rc, q_eq_t, q_eq_f, q_eq_nm, q_eq_mn, q_eq_mt, q_eq_mf, q_lt_t, q_lt_f, q_lt_mn, q_lt_nm, q_le_t, q_le_f, q_le_mn, q_le_nm, q_ac_t, q_ac_f, q_dv_n, q_rm_n, q_ld_n, q_lB_n, q_lJ_n, q_st_n, q_sB_n, q_sJ_n, q_sQ_n, q_cp_n, zN_add, zN_mul, zN_sub, zN_subm, zM_sub, zN_and, va_up_self, va_up_ne, j_add0, j_addt, ne_eq, not_false_eq_true, not_true_eq_false, Nat.reduceAdd, Nat.reduceSub, Nat.reduceMul, Nat.reduceMod, Nat.reduceEqDiff, q_g0_0, q_p0_0, q_g0_1, q_p0_1, q_g0_2, q_p0_2, q_g0_3, q_p0_3, q_g0_4, q_p0_4, q_g0_5, q_p0_5, q_g0_6, q_p0_6, q_g0_7, q_p0_7, q_g1_0, q_p1_0, q_g1_1, q_p1_1, q_g1_2, q_p1_2, q_g1_3, q_p1_3, q_g1_4, q_p1_4, q_g1_5, q_p1_5, q_g1_6, q_p1_6, q_g2_0, q_p2_0, q_g2_1, q_p2_1, q_g2_2, q_p2_2, q_g2_3, q_p2_3, q_g3_0, q_p3_0, q_g3_1, q_p3_1, q_g3_2, q_p3_2, q_g3_3, q_p3_3, q_g3_4, q_p3_4, q_g3_5, q_p3_5, q_g3_6, q_p3_6, q_g4_0, q_p4_0, q_g4_1, q_p4_1, q_g4_2, q_p4_2, q_g4_3, q_p4_3, q_g4_4, q_p4_4, q_g5_0, q_p5_0, q_g5_1, q_p5_1, q_g5_2, q_p5_2, q_g5_3, q_p5_3, q_g5_4, q_p5_4, q_g5_5, q_p5_5, q_g5_6, q_p5_6, q_g5_7, q_p5_7, q_g5_8, q_p5_8, q_g5_9, q_p5_9, q_g5_10, q_p5_10, q_g5_11, q_p5_11, q_g5_12, q_p5_12, q_g5_13, q_p5_13, q_g5_14, q_p5_14, q_g5_15, q_p5_15, a0, a1, b0, e1, em, e2]
    rfl
theorem t_mixF (hO : isO M v cnt u ln tx) (hv : okV v B) (hB : B < 1000000000) {g : Int64} : ∃ F' : Nat → Int32, Rn X (d + 8) 89 0 [some (.ref 0), some (.long g), none, none, none, none] [] M h = some (.inl (some (.long (hFo v g))), va_up M 17 (.inl (0, 8, .inl F')), h) := by
  have a0 := isJ_0 hO.1
  have e0 := o_ahead (X := X) (d := d) (h := j_h0 h) (s := 0) hO hv hB (by omega)
  have e1 := o_ahead (X := X) (d := d) (h := j_h0 h) (s := 1) hO hv hB (by omega)
  obtain ⟨F1, e2⟩ := o_agree (X := X) (d := d) (h := j_h0 h) hO hv hB
  obtain ⟨F2, e3⟩ := t_mixT (X := X) (d := d) (h := h) hO hv hB (g0 := g) 8 0 (mx (mx (mx g (zN (could v 164))) (zN (could v 185))) (agrI v)) F1 (by omega)
  have em := fun (g : Int64) (x : Int32) => t_mix (X := X) (d := d + 7) (M := M) (h := j_h0 h) (g := g) (x := x)
  have em' := fun (g : Int64) (x : Int32) => t_mix (X := X) (d := d + 7) (M := va_up M 17 (.inl (0, 8, .inl F1))) (h := j_h0 h) (g := g) (x := x)
  refine ⟨F2, ?_⟩
  simp (disch := first | exact cs_0 | exact cs_1 _ | exact cs_2 _ _ | exact cs_3 _ _ _ | exact cs_4 _ _ _ _ | exact j_one_i _ | exact j_one_r _ | exact j_one_n | omega) only [e89_0, e89_1, e89_2, e89_3, e89_5, e89_7, e89_8, e89_11, e89_12, e89_13, e89_15, e89_18, e89_19, e89_22, e89_23, e89_26, e89_29, e89_30, e89_31, e89_34, e89_35, e89_38, e89_39, e89_40, e89_44, e89_46, e89_49, e89_50, e89_51, e89_52, e89_55, e89_58, e89_61, e89_63, e89_66, e89_67, e89_70, e89_71, e89_74, e89_77, e89_78, q_k_v, q_k_n, q_k_x, q_kc_v, q_kc_n, q_kc_x, q_rc, q_eq_t, q_eq_f, q_eq_nm, q_eq_mn, q_eq_mt, q_eq_mf, q_lt_t, q_lt_f, q_lt_mn, q_lt_nm, q_le_t, q_le_f, q_le_mn, q_le_nm, q_ac_t, q_ac_f, q_dv_n, q_rm_n, q_ld_n, q_lB_n, q_lJ_n, q_st_n, q_sB_n, q_sJ_n, q_sQ_n, q_cp_n, zN_add, zN_mul, zN_sub, zN_subm, zM_sub, zN_and, va_up_self, va_up_ne, j_add0, j_addt, ne_eq, not_false_eq_true, not_true_eq_false, Nat.reduceAdd, Nat.reduceSub, Nat.reduceMul, Nat.reduceMod, Nat.reduceEqDiff, q_g0_0, q_p0_0, q_g0_1, q_p0_1, q_g0_2, q_p0_2, q_g0_3, q_p0_3, q_g0_4, q_p0_4, q_g0_5, q_p0_5, q_g0_6, q_p0_6, q_g0_7, q_p0_7, q_g1_0, q_p1_0, q_g1_1, q_p1_1, q_g1_2, q_p1_2, q_g1_3, q_p1_3, q_g1_4, q_p1_4, q_g1_5, q_p1_5, q_g1_6, q_p1_6, q_g2_0, q_p2_0, q_g2_1, q_p2_1, q_g2_2, q_p2_2, q_g2_3, q_p2_3, q_g3_0, q_p3_0, q_g3_1, q_p3_1, q_g3_2, q_p3_2, q_g3_3, q_p3_3, q_g3_4, q_p3_4, q_g3_5, q_p3_5, q_g3_6, q_p3_6, q_g4_0, q_p4_0, q_g4_1, q_p4_1, q_g4_2, q_p4_2, q_g4_3, q_p4_3, q_g4_4, q_p4_4, q_g5_0, q_p5_0, q_g5_1, q_p5_1, q_g5_2, q_p5_2, q_g5_3, q_p5_3, q_g5_4, q_p5_4, q_g5_5, q_p5_5, q_g5_6, q_p5_6, q_g5_7, q_p5_7, q_g5_8, q_p5_8, q_g5_9, q_p5_9, q_g5_10, q_p5_10, q_g5_11, q_p5_11, q_g5_12, q_p5_12, q_g5_13, q_p5_13, q_g5_14, q_p5_14, q_g5_15, q_p5_15, a0, e0, e1, e2, em, em', e3]
  rfl
theorem o_digest (hO : isO M v cnt u ln tx) (hv : okV v B) (hB : B < 1000000000) : ∃ F' : Nat → Int32, Rn X (d + 9) 85 0 [some (.ref 0), none, none, none] [] M h = some (.inl (some (.long (digI v cnt ln))), va_up M 17 (.inl (0, 8, .inl F')), h) := by
  obtain ⟨q0, q1, q2, q3, q4, q5, q6, q7⟩ := id hv
  have a0 := isJ_0 hO.1
  have hst := isJ_st hO.1
  have a1 := isSt_1 hst
  obtain ⟨K0, K1, K2, K3, K4, b0, -⟩ := isSt_2 hst
  have hO' := hO
  obtain ⟨h1, ⟨Y, x1, x2, x3, x4, x5, b1, b2, b3⟩, ⟨F, f1⟩, h4⟩ := hO'
  have w := fun (w : Nat) (hw : w < 7) => o_value (X := X) (d := d + 1) (h := j_h0 h) hO hv hB hw
  have w0 := w 0 (by omega)
  have w1 := w 1 (by omega)
  have w2 := w 2 (by omega)
  have w3 := w 3 (by omega)
  have w4 := w 4 (by omega)
  have w5 := w 5 (by omega)
  have w6 := w 6 (by omega)
  have em := fun (g : Int64) (x : Int32) => t_mix (X := X) (d := d + 8) (M := M) (h := j_h0 h) (g := g) (x := x)
  have eO := t_mixO (X := X) (d := d) (h := j_h0 h) (g0 := hVa v (mx 3797 (zN ln))) hO hv hB (v 2 - v 1) (v 1) (hVa v (mx 3797 (zN ln))) none (by omega) (by omega) rfl
  have eS := t_mixS (X := X) (d := d) (h := j_h0 h) (g := hOs v (v 2 - v 1) (v 1) (hVa v (mx 3797 (zN ln)))) hO hv hB
  obtain ⟨F1, eF⟩ := t_mixF (X := X) (d := d) (h := j_h0 h) (g := hSh v 185 (hSh v 164 (hOs v (v 2 - v 1) (v 1) (hVa v (mx 3797 (zN ln)))))) hO hv hB
  have em' := fun (g : Int64) (x : Int32) => t_mix (X := X) (d := d + 8) (M := va_up M 17 (.inl (0, 8, .inl F1))) (h := j_h0 h) (g := g) (x := x)
  have eV : mx (mx (mx (mx (mx (mx (mx (mx 3797 (zN ln)) (zN (valN v 0))) (zN (valN v 1))) (zN (valN v 2))) (zN (valN v 3))) (zN (valN v 4))) (zN (valN v 5))) (zN (valN v 6)) = hVa v (mx 3797 (zN ln)) := rfl
  refine ⟨F1, ?_⟩
  simp (disch := first | exact cs_0 | exact cs_1 _ | exact cs_2 _ _ | exact cs_3 _ _ _ | exact cs_4 _ _ _ _ | exact j_one_i _ | exact j_one_r _ | exact j_one_n | omega) only [e85_0, e85_3, e85_4, e85_7, e85_10, e85_11, e85_14, e85_15, e85_16, e85_17, e85_18, e85_20, e85_23, e85_24, e85_25, e85_26, e85_29, e85_30, e85_33, e85_34, e85_37, e85_40, e85_41, e85_42, e85_45, e85_46, e85_47, e85_48, e85_51, e85_52, e85_53, e85_54, e85_57, e85_58, e85_59, e85_60, e85_63, e85_64, e85_67, e87_0, e87_1, e87_2, e87_3, e87_6, e87_9, e87_12, q_k_v, q_k_n, q_k_x, q_kc_v, q_kc_n, q_kc_x, q_rc, q_eq_t, q_eq_f, q_eq_nm, q_eq_mn, q_eq_mt, q_eq_mf, q_lt_t, q_lt_f, q_lt_mn, q_lt_nm, q_le_t, q_le_f, q_le_mn, q_le_nm, q_ac_t, q_ac_f, q_dv_n, q_rm_n, q_ld_n, q_lB_n, q_lJ_n, q_st_n, q_sB_n, q_sJ_n, q_sQ_n, q_cp_n, zN_add, zN_mul, zN_sub, zN_subm, zM_sub, zN_and, va_up_self, va_up_ne, j_add0, j_addt, ne_eq, not_false_eq_true, not_true_eq_false, Nat.reduceAdd, Nat.reduceSub, Nat.reduceMul, Nat.reduceMod, Nat.reduceEqDiff, q_g0_0, q_p0_0, q_g0_1, q_p0_1, q_g0_2, q_p0_2, q_g0_3, q_p0_3, q_g0_4, q_p0_4, q_g0_5, q_p0_5, q_g0_6, q_p0_6, q_g0_7, q_p0_7, q_g1_0, q_p1_0, q_g1_1, q_p1_1, q_g1_2, q_p1_2, q_g1_3, q_p1_3, q_g1_4, q_p1_4, q_g1_5, q_p1_5, q_g1_6, q_p1_6, q_g2_0, q_p2_0, q_g2_1, q_p2_1, q_g2_2, q_p2_2, q_g2_3, q_p2_3, q_g3_0, q_p3_0, q_g3_1, q_p3_1, q_g3_2, q_p3_2, q_g3_3, q_p3_3, q_g3_4, q_p3_4, q_g3_5, q_p3_5, q_g3_6, q_p3_6, q_g4_0, q_p4_0, q_g4_1, q_p4_1, q_g4_2, q_p4_2, q_g4_3, q_p4_3, q_g4_4, q_p4_4, q_g5_0, q_p5_0, q_g5_1, q_p5_1, q_g5_2, q_p5_2, q_g5_3, q_p5_3, q_g5_4, q_p5_4, q_g5_5, q_p5_5, q_g5_6, q_p5_6, q_g5_7, q_p5_7, q_g5_8, q_p5_8, q_g5_9, q_p5_9, q_g5_10, q_p5_10, q_g5_11, q_p5_11, q_g5_12, q_p5_12, q_g5_13, q_p5_13, q_g5_14, q_p5_14, q_g5_15, q_p5_15, a0, a1, b0, b1, va_up_ne, w0, w1, w2, w3, w4, w5, w6, em, eV, eO, eS, eF, em']
  rfl
end
