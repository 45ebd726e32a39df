/-! the class's reading of one command -/
section
variable {X : jX} {d : Nat} {M : jM} {h : jH} {ln : Nat} {tx : Nat → Nat} {Y : Nat → Int32} {le fi se nu : Int32}
theorem t_rfY {a n : Nat} (b1 : M 15 = .inr (3, [.int (zN ln), .ref 16, .int (zN a), .int le, .int fi, .int se, .int nu])) (b2 : M 16 = .inl (1, 100, .inl Y)) (b3 : ∀ j, j < ln → Y j = zN (tx j)) (hl : ln ≤ 100) (ha : a < 1000) (hn : n < 20) (hh : dig tx ln a n) :
    Rn X (d + 2) 56 0 [some (.ref 15), some (.int (zN n))] [] M h = some (.inl (some (.int (zN 1))), va_up M 15 (.inr (3, [.int (zN ln), .ref 16, .int (zN (a + 1)), .int le, .int (zN (tx a - 48)), .int (zN 0), .int nu])), h) := by
  have e := t_digY (X := X) (d := d) (h := j_h0 h) b1 b2 b3 hl ha hn hh
  have q := hh.2.2
  simp (disch := first | exact cs_0 | exact cs_1 _ | exact cs_2 _ _ | exact cs_3 _ _ _ | exact cs_4 _ _ _ _ | exact j_one_i _ | exact j_one_r _ | exact j_one_n | omega) only [e56_0, e56_1, e56_2, e56_3, e56_6, e56_9, e56_10, e56_11, e56_14, e56_15, e56_18, e56_19, e56_22, e56_23, e56_26, e56_27, q_k_v, q_k_n, q_k_x, q_kc_v, q_kc_n, q_kc_x, q_rc, q_eq_t, q_eq_f, q_eq_nm, q_eq_mn, q_eq_mt, q_eq_mf, q_lt_t, q_lt_f, q_lt_mn, q_lt_nm, q_le_t, q_le_f, q_le_mn, q_le_nm, q_ac_t, q_ac_f, q_dv_n, q_rm_n, q_ld_n, q_lB_n, q_lJ_n, q_st_n, q_sB_n, q_sJ_n, q_sQ_n, q_cp_n, zN_add, zN_mul, zN_sub, zN_subm, zM_sub, zN_and, va_up_self, va_up_ne, j_add0, j_addt, ne_eq, not_false_eq_true, not_true_eq_false, Nat.reduceAdd, Nat.reduceSub, Nat.reduceMul, Nat.reduceMod, Nat.reduceEqDiff, q_g0_0, q_p0_0, q_g0_1, q_p0_1, q_g0_2, q_p0_2, q_g0_3, q_p0_3, q_g0_4, q_p0_4, q_g0_5, q_p0_5, q_g0_6, q_p0_6, q_g0_7, q_p0_7, q_g1_0, q_p1_0, q_g1_1, q_p1_1, q_g1_2, q_p1_2, q_g1_3, q_p1_3, q_g1_4, q_p1_4, q_g1_5, q_p1_5, q_g1_6, q_p1_6, q_g2_0, q_p2_0, q_g2_1, q_p2_1, q_g2_2, q_p2_2, q_g2_3, q_p2_3, q_g3_0, q_p3_0, q_g3_1, q_p3_1, q_g3_2, q_p3_2, q_g3_3, q_p3_3, q_g3_4, q_p3_4, q_g3_5, q_p3_5, q_g3_6, q_p3_6, q_g4_0, q_p4_0, q_g4_1, q_p4_1, q_g4_2, q_p4_2, q_g4_3, q_p4_3, q_g4_4, q_p4_4, q_g5_0, q_p5_0, q_g5_1, q_p5_1, q_g5_2, q_p5_2, q_g5_3, q_p5_3, q_g5_4, q_p5_4, q_g5_5, q_p5_5, q_g5_6, q_p5_6, q_g5_7, q_p5_7, q_g5_8, q_p5_8, q_g5_9, q_p5_9, q_g5_10, q_p5_10, q_g5_11, q_p5_11, q_g5_12, q_p5_12, q_g5_13, q_p5_13, q_g5_14, q_p5_14, q_g5_15, q_p5_15, b1, e, vu_up]
theorem t_rfN {a n : Nat} (b1 : M 15 = .inr (3, [.int (zN ln), .ref 16, .int (zN a), .int le, .int fi, .int se, .int nu])) (b2 : M 16 = .inl (1, 100, .inl Y)) (b3 : ∀ j, j < ln → Y j = zN (tx j)) (hl : ln ≤ 100) (ht : ∀ j, j < ln → tx j < 128) (ha : a < 1000) (hn : n < 20) (hh : ¬ dig tx ln a n) :
    Rn X (d + 2) 56 0 [some (.ref 15), some (.int (zN n))] [] M h = some (.inl (some (.int (zN 0))), va_up M 15 (.inr (3, [.int (zN ln), .ref 16, .int (zN a), .int le, .int (zM 0), .int (zN 0), .int nu])), h) := by
  have e := t_digN (X := X) (d := d) (h := j_h0 h) b1 b2 b3 hl ht ha hn hh
  simp (disch := first | exact cs_0 | exact cs_1 _ | exact cs_2 _ _ | exact cs_3 _ _ _ | exact cs_4 _ _ _ _ | exact j_one_i _ | exact j_one_r _ | exact j_one_n | omega) only [e56_0, e56_1, e56_2, e56_3, e56_6, e56_9, e56_10, e56_11, e56_14, e56_15, e56_18, e56_19, e56_22, e56_23, e56_26, e56_27, q_k_v, q_k_n, q_k_x, q_kc_v, q_kc_n, q_kc_x, q_rc, q_eq_t, q_eq_f, q_eq_nm, q_eq_mn, q_eq_mt, q_eq_mf, q_lt_t, q_lt_f, q_lt_mn, q_lt_nm, q_le_t, q_le_f, q_le_mn, q_le_nm, q_ac_t, q_ac_f, q_dv_n, q_rm_n, q_ld_n, q_lB_n, q_lJ_n, q_st_n, q_sB_n, q_sJ_n, q_sQ_n, q_cp_n, zN_add, zN_mul, zN_sub, zN_subm, zM_sub, zN_and, va_up_self, va_up_ne, j_add0, j_addt, ne_eq, not_false_eq_true, not_true_eq_false, Nat.reduceAdd, Nat.reduceSub, Nat.reduceMul, Nat.reduceMod, Nat.reduceEqDiff, q_g0_0, q_p0_0, q_g0_1, q_p0_1, q_g0_2, q_p0_2, q_g0_3, q_p0_3, q_g0_4, q_p0_4, q_g0_5, q_p0_5, q_g0_6, q_p0_6, q_g0_7, q_p0_7, q_g1_0, q_p1_0, q_g1_1, q_p1_1, q_g1_2, q_p1_2, q_g1_3, q_p1_3, q_g1_4, q_p1_4, q_g1_5, q_p1_5, q_g1_6, q_p1_6, q_g2_0, q_p2_0, q_g2_1, q_p2_1, q_g2_2, q_p2_2, q_g2_3, q_p2_3, q_g3_0, q_p3_0, q_g3_1, q_p3_1, q_g3_2, q_p3_2, q_g3_3, q_p3_3, q_g3_4, q_p3_4, q_g3_5, q_p3_5, q_g3_6, q_p3_6, q_g4_0, q_p4_0, q_g4_1, q_p4_1, q_g4_2, q_p4_2, q_g4_3, q_p4_3, q_g4_4, q_p4_4, q_g5_0, q_p5_0, q_g5_1, q_p5_1, q_g5_2, q_p5_2, q_g5_3, q_p5_3, q_g5_4, q_p5_4, q_g5_5, q_p5_5, q_g5_6, q_p5_6, q_g5_7, q_p5_7, q_g5_8, q_p5_8, q_g5_9, q_p5_9, q_g5_10, q_p5_10, q_g5_11, q_p5_11, q_g5_12, q_p5_12, q_g5_13, q_p5_13, q_g5_14, q_p5_14, q_g5_15, q_p5_15, b1, e, vu_up]
theorem t_rsY {a n : Nat} (b1 : M 15 = .inr (3, [.int (zN ln), .ref 16, .int (zN a), .int le, .int fi, .int se, .int nu])) (b2 : M 16 = .inl (1, 100, .inl Y)) (b3 : ∀ j, j < ln → Y j = zN (tx j)) (hl : ln ≤ 100) (ha : a < 1000) (hn : n < 20) (hh : dig tx ln a n) :
    Rn X (d + 2) 57 0 [some (.ref 15), some (.int (zN n))] [] M h = some (.inl (some (.int (zN 1))), va_up M 15 (.inr (3, [.int (zN ln), .ref 16, .int (zN (a + 1)), .int le, .int fi, .int (zN (tx a - 48)), .int nu])), h) := by
  have e := t_digY (X := X) (d := d) (h := j_h0 h) b1 b2 b3 hl ha hn hh
  have q := hh.2.2
  simp (disch := first | exact cs_0 | exact cs_1 _ | exact cs_2 _ _ | exact cs_3 _ _ _ | exact cs_4 _ _ _ _ | exact j_one_i _ | exact j_one_r _ | exact j_one_n | omega) only [e57_0, e57_1, e57_2, e57_3, e57_6, e57_9, e57_10, e57_13, e57_14, e57_17, e57_18, e57_21, e57_22, q_k_v, q_k_n, q_k_x, q_kc_v, q_kc_n, q_kc_x, q_rc, q_eq_t, q_eq_f, q_eq_nm, q_eq_mn, q_eq_mt, q_eq_mf, q_lt_t, q_lt_f, q_lt_mn, q_lt_nm, q_le_t, q_le_f, q_le_mn, q_le_nm, q_ac_t, q_ac_f, q_dv_n, q_rm_n, q_ld_n, q_lB_n, q_lJ_n, q_st_n, q_sB_n, q_sJ_n, q_sQ_n, q_cp_n, zN_add, zN_mul, zN_sub, zN_subm, zM_sub, zN_and, va_up_self, va_up_ne, j_add0, j_addt, ne_eq, not_false_eq_true, not_true_eq_false, Nat.reduceAdd, Nat.reduceSub, Nat.reduceMul, Nat.reduceMod, Nat.reduceEqDiff, q_g0_0, q_p0_0, q_g0_1, q_p0_1, q_g0_2, q_p0_2, q_g0_3, q_p0_3, q_g0_4, q_p0_4, q_g0_5, q_p0_5, q_g0_6, q_p0_6, q_g0_7, q_p0_7, q_g1_0, q_p1_0, q_g1_1, q_p1_1, q_g1_2, q_p1_2, q_g1_3, q_p1_3, q_g1_4, q_p1_4, q_g1_5, q_p1_5, q_g1_6, q_p1_6, q_g2_0, q_p2_0, q_g2_1, q_p2_1, q_g2_2, q_p2_2, q_g2_3, q_p2_3, q_g3_0, q_p3_0, q_g3_1, q_p3_1, q_g3_2, q_p3_2, q_g3_3, q_p3_3, q_g3_4, q_p3_4, q_g3_5, q_p3_5, q_g3_6, q_p3_6, q_g4_0, q_p4_0, q_g4_1, q_p4_1, q_g4_2, q_p4_2, q_g4_3, q_p4_3, q_g4_4, q_p4_4, q_g5_0, q_p5_0, q_g5_1, q_p5_1, q_g5_2, q_p5_2, q_g5_3, q_p5_3, q_g5_4, q_p5_4, q_g5_5, q_p5_5, q_g5_6, q_p5_6, q_g5_7, q_p5_7, q_g5_8, q_p5_8, q_g5_9, q_p5_9, q_g5_10, q_p5_10, q_g5_11, q_p5_11, q_g5_12, q_p5_12, q_g5_13, q_p5_13, q_g5_14, q_p5_14, q_g5_15, q_p5_15, b1, e, vu_up]
theorem t_rsN {a n : Nat} (b1 : M 15 = .inr (3, [.int (zN ln), .ref 16, .int (zN a), .int le, .int fi, .int se, .int nu])) (b2 : M 16 = .inl (1, 100, .inl Y)) (b3 : ∀ j, j < ln → Y j = zN (tx j)) (hl : ln ≤ 100) (ht : ∀ j, j < ln → tx j < 128) (ha : a < 1000) (hn : n < 20) (hh : ¬ dig tx ln a n) :
    Rn X (d + 2) 57 0 [some (.ref 15), some (.int (zN n))] [] M h = some (.inl (some (.int (zN 0))), va_up M 15 (.inr (3, [.int (zN ln), .ref 16, .int (zN a), .int le, .int fi, .int (zM 0), .int nu])), h) := by
  have e := t_digN (X := X) (d := d) (h := j_h0 h) b1 b2 b3 hl ht ha hn hh
  simp (disch := first | exact cs_0 | exact cs_1 _ | exact cs_2 _ _ | exact cs_3 _ _ _ | exact cs_4 _ _ _ _ | exact j_one_i _ | exact j_one_r _ | exact j_one_n | omega) only [e57_0, e57_1, e57_2, e57_3, e57_6, e57_9, e57_10, e57_13, e57_14, e57_17, e57_18, e57_21, e57_22, q_k_v, q_k_n, q_k_x, q_kc_v, q_kc_n, q_kc_x, q_rc, q_eq_t, q_eq_f, q_eq_nm, q_eq_mn, q_eq_mt, q_eq_mf, q_lt_t, q_lt_f, q_lt_mn, q_lt_nm, q_le_t, q_le_f, q_le_mn, q_le_nm, q_ac_t, q_ac_f, q_dv_n, q_rm_n, q_ld_n, q_lB_n, q_lJ_n, q_st_n, q_sB_n, q_sJ_n, q_sQ_n, q_cp_n, zN_add, zN_mul, zN_sub, zN_subm, zM_sub, zN_and, va_up_self, va_up_ne, j_add0, j_addt, ne_eq, not_false_eq_true, not_true_eq_false, Nat.reduceAdd, Nat.reduceSub, Nat.reduceMul, Nat.reduceMod, Nat.reduceEqDiff, q_g0_0, q_p0_0, q_g0_1, q_p0_1, q_g0_2, q_p0_2, q_g0_3, q_p0_3, q_g0_4, q_p0_4, q_g0_5, q_p0_5, q_g0_6, q_p0_6, q_g0_7, q_p0_7, q_g1_0, q_p1_0, q_g1_1, q_p1_1, q_g1_2, q_p1_2, q_g1_3, q_p1_3, q_g1_4, q_p1_4, q_g1_5, q_p1_5, q_g1_6, q_p1_6, q_g2_0, q_p2_0, q_g2_1, q_p2_1, q_g2_2, q_p2_2, q_g2_3, q_p2_3, q_g3_0, q_p3_0, q_g3_1, q_p3_1, q_g3_2, q_p3_2, q_g3_3, q_p3_3, q_g3_4, q_p3_4, q_g3_5, q_p3_5, q_g3_6, q_p3_6, q_g4_0, q_p4_0, q_g4_1, q_p4_1, q_g4_2, q_p4_2, q_g4_3, q_p4_3, q_g4_4, q_p4_4, q_g5_0, q_p5_0, q_g5_1, q_p5_1, q_g5_2, q_p5_2, q_g5_3, q_p5_3, q_g5_4, q_p5_4, q_g5_5, q_p5_5, q_g5_6, q_p5_6, q_g5_7, q_p5_7, q_g5_8, q_p5_8, q_g5_9, q_p5_9, q_g5_10, q_p5_10, q_g5_11, q_p5_11, q_g5_12, q_p5_12, q_g5_13, q_p5_13, q_g5_14, q_p5_14, q_g5_15, q_p5_15, b1, e, vu_up]
end
/-- the end of a number and the sign behind it -/
def endF (tx : Nat → Nat) (ln a : Nat) : Nat ⊕ (Nat × Nat) := match numF tx ln a with
  | .inl p => .inl p
  | .inr (n, p) => if hit tx ln p 59 then .inr (n, p + 1) else .inl p
/-- one command: first, second, number, the place behind it; or the fault's place -/
def cmdF (tx : Nat → Nat) (ln a : Nat) : Nat ⊕ (Nat × Nat × Nat × Nat) :=
  if hit tx ln a 108 ∨ hit tx ln a 117 then
    if dig tx ln (a + 1) 8 then
      if hit tx ln (a + 2) 44 then match endF tx ln (a + 3) with
        | .inl p => .inl p
        | .inr (n, p) => .inr (tx (a + 1) - 48, 0, n, p)
      else .inl (a + 2)
    else .inl (a + 1)
  else if hit tx ln a 109 ∨ hit tx ln a 115 ∨ hit tx ln a 118 then
    if dig tx ln (a + 1) 8 then
      if dig tx ln (a + 2) 8 then
        if hit tx ln (a + 3) 44 then match endF tx ln (a + 4) with
          | .inl p => .inl p
          | .inr (n, p) => .inr (tx (a + 1) - 48, tx (a + 2) - 48, n, p)
        else .inl (a + 3)
      else .inl (a + 2)
    else .inl (a + 1)
  else if hit tx ln a 114 then
    if dig tx ln (a + 1) 2 then match endF tx ln (a + 2) with
      | .inl p => .inl p
      | .inr (n, p) => .inr (tx (a + 1) - 48, 0, n, p)
    else .inl (a + 1)
  else if hit tx ln a 116 ∨ hit tx ln a 99 then
    if dig tx ln (a + 1) 2 then
      if hit tx ln (a + 2) 59 then .inr (tx (a + 1) - 48, 0, 0, a + 3) else .inl (a + 2)
    else .inl (a + 1)
  else .inl a
