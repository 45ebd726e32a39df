/-! new objects -/
theorem df0 : j_df 0 = [.int (zN 0), .int (zN 0), .int (zN 0), .null, .null, .null, .null, .null] := rfl
theorem df1 : j_df 1 = [.int (zN 0), .int (zN 0), .int (zN 0), .int (zN 0), .int (zN 0), .null, .null] := rfl
theorem df2 : j_df 2 = [.null, .null, .null, .int (zN 0)] := rfl
theorem df3 : j_df 3 = [.int (zN 0), .null, .int (zN 0), .int (zN 0), .int (zN 0), .int (zN 0), .int (zN 0)] := rfl
theorem df4 : j_df 4 = [.null, .null, .int (zN 0), .null, .null] := rfl
theorem j_addp (n n' c c' z z' : Nat) (f f' : Bool) : j_add (n, f, c, z) (n', f', c', z') = (n', f', c + c', z + z') := rfl
theorem j_h0p (n c z : Nat) (f : Bool) : j_h0 (n, f, c, z) = (n, f, 0, 0) := rfl
theorem va_up_at {α : Type} (f : Nat → α) (a : α) {k j : Nat} (h : j = k) : va_up f k a j = a := by
  rw [h, va_up_self]
section
variable {X : jX} {d : Nat} {M : jM} {c z : Nat}
theorem t_rgNew {b : Nat} (hb : b < 900) (m0 : M b = .inr (0, j_df 0)) : ∃ M', Rn X (d + 1) 0 0 [some (.ref b)] [] M (b + 1, true, c, z) = some (.inl none, M', (b + 6, true, c + 5, z + 160)) ∧ isRing M' b (fun _ => 0) ∧ sm M M' b (b + 6) := by
  rw [df0] at m0
  refine ⟨_, by (simp (disch := first | exact cs_0 | exact cs_1 _ | exact cs_2 _ _ | exact cs_3 _ _ _ | exact cs_4 _ _ _ _ | exact j_one_i _ | exact j_one_r _ | exact j_one_n | omega) only [e0_0, e0_1, e0_4, e0_5, e0_7, e0_9, e0_12, e0_13, e0_15, e0_17, e0_20, e0_21, e0_23, e0_25, e0_28, e0_29, e0_31, e0_33, e0_36, e0_37, e0_39, e0_41, e0_44, q_k_v, q_k_n, q_k_x, q_kc_v, q_kc_n, q_kc_x, q_rc, q_eq_t, q_eq_f, q_eq_nm, q_eq_mn, q_eq_mt, q_eq_mf, q_lt_t, q_lt_f, q_lt_mn, q_lt_nm, q_le_t, q_le_f, q_le_mn, q_le_nm, q_ac_t, q_ac_f, q_dv_n, q_rm_n, q_ld_n, q_lB_n, q_lJ_n, q_st_n, q_sB_n, q_sJ_n, q_sQ_n, q_cp_n, zN_add, zN_mul, zN_sub, zN_subm, zM_sub, zN_and, va_up_self, va_up_ne, j_add0, j_addt, ne_eq, not_false_eq_true, not_true_eq_false, Nat.reduceAdd, Nat.reduceSub, Nat.reduceMul, Nat.reduceMod, Nat.reduceEqDiff, q_g0_0, q_p0_0, q_g0_1, q_p0_1, q_g0_2, q_p0_2, q_g0_3, q_p0_3, q_g0_4, q_p0_4, q_g0_5, q_p0_5, q_g0_6, q_p0_6, q_g0_7, q_p0_7, q_g1_0, q_p1_0, q_g1_1, q_p1_1, q_g1_2, q_p1_2, q_g1_3, q_p1_3, q_g1_4, q_p1_4, q_g1_5, q_p1_5, q_g1_6, q_p1_6, q_g2_0, q_p2_0, q_g2_1, q_p2_1, q_g2_2, q_p2_2, q_g2_3, q_p2_3, q_g3_0, q_p3_0, q_g3_1, q_p3_1, q_g3_2, q_p3_2, q_g3_3, q_p3_3, q_g3_4, q_p3_4, q_g3_5, q_p3_5, q_g3_6, q_p3_6, q_g4_0, q_p4_0, q_g4_1, q_p4_1, q_g4_2, q_p4_2, q_g4_3, q_p4_3, q_g4_4, q_p4_4, q_g5_0, q_p5_0, q_g5_1, q_p5_1, q_g5_2, q_p5_2, q_g5_3, q_p5_3, q_g5_4, q_p5_4, q_g5_5, q_p5_5, q_g5_6, q_p5_6, q_g5_7, q_p5_7, q_g5_8, q_p5_8, q_g5_9, q_p5_9, q_g5_10, q_p5_10, q_g5_11, q_p5_11, q_g5_12, q_p5_12, q_g5_13, q_p5_13, q_g5_14, q_p5_14, q_g5_15, q_p5_15, m0]; rfl), ?_, ?_⟩
  · refine ⟨fun _ => 0, fun _ => 0, fun _ => 0, fun _ => 0, fun _ => 0, ?_, ?_, ?_, ?_, ?_, ?_, fun p h1 h2 => absurd h2 (Nat.not_lt_zero p)⟩
    · simp (disch := first | exact cs_0 | exact cs_1 _ | exact cs_2 _ _ | exact cs_3 _ _ _ | exact cs_4 _ _ _ _ | exact j_one_i _ | exact j_one_r _ | exact j_one_n | omega) only [va_up_self, va_up_ne]
    · simp (disch := first | exact cs_0 | exact cs_1 _ | exact cs_2 _ _ | exact cs_3 _ _ _ | exact cs_4 _ _ _ _ | exact j_one_i _ | exact j_one_r _ | exact j_one_n | omega) only [va_up_self, va_up_ne, va_up_at]
    · simp (disch := first | exact cs_0 | exact cs_1 _ | exact cs_2 _ _ | exact cs_3 _ _ _ | exact cs_4 _ _ _ _ | exact j_one_i _ | exact j_one_r _ | exact j_one_n | omega) only [va_up_self, va_up_ne, va_up_at]
    · simp (disch := first | exact cs_0 | exact cs_1 _ | exact cs_2 _ _ | exact cs_3 _ _ _ | exact cs_4 _ _ _ _ | exact j_one_i _ | exact j_one_r _ | exact j_one_n | omega) only [va_up_self, va_up_ne, va_up_at]
    · simp (disch := first | exact cs_0 | exact cs_1 _ | exact cs_2 _ _ | exact cs_3 _ _ _ | exact cs_4 _ _ _ _ | exact j_one_i _ | exact j_one_r _ | exact j_one_n | omega) only [va_up_self, va_up_ne, va_up_at]
    · simp (disch := first | exact cs_0 | exact cs_1 _ | exact cs_2 _ _ | exact cs_3 _ _ _ | exact cs_4 _ _ _ _ | exact j_one_i _ | exact j_one_r _ | exact j_one_n | omega) only [va_up_self, va_up_ne, va_up_at]
  · intro a q
    simp (disch := first | exact cs_0 | exact cs_1 _ | exact cs_2 _ _ | exact cs_3 _ _ _ | exact cs_4 _ _ _ _ | exact j_one_i _ | exact j_one_r _ | exact j_one_n | omega) only [va_up_ne]
theorem t_shNew {b t : Nat} (hb : b < 900) (m0 : M b = .inr (1, j_df 1)) : ∃ M', Rn X (d + 1) 24 0 [some (.ref b)] [] M (b + 1, true, c, z) = some (.inl none, M', (b + 3, true, c + 2, z + 16)) ∧ isShip M' b (fun _ => 0) t ∧ sm M M' b (b + 3) := by
  rw [df1] at m0
  refine ⟨_, by (simp (disch := first | exact cs_0 | exact cs_1 _ | exact cs_2 _ _ | exact cs_3 _ _ _ | exact cs_4 _ _ _ _ | exact j_one_i _ | exact j_one_r _ | exact j_one_n | omega) only [e24_0, e24_1, e24_4, e24_5, e24_7, e24_9, e24_12, e24_13, e24_15, e24_17, e24_20, q_k_v, q_k_n, q_k_x, q_kc_v, q_kc_n, q_kc_x, q_rc, q_eq_t, q_eq_f, q_eq_nm, q_eq_mn, q_eq_mt, q_eq_mf, q_lt_t, q_lt_f, q_lt_mn, q_lt_nm, q_le_t, q_le_f, q_le_mn, q_le_nm, q_ac_t, q_ac_f, q_dv_n, q_rm_n, q_ld_n, q_lB_n, q_lJ_n, q_st_n, q_sB_n, q_sJ_n, q_sQ_n, q_cp_n, zN_add, zN_mul, zN_sub, zN_subm, zM_sub, zN_and, va_up_self, va_up_ne, j_add0, j_addt, ne_eq, not_false_eq_true, not_true_eq_false, Nat.reduceAdd, Nat.reduceSub, Nat.reduceMul, Nat.reduceMod, Nat.reduceEqDiff, q_g0_0, q_p0_0, q_g0_1, q_p0_1, q_g0_2, q_p0_2, q_g0_3, q_p0_3, q_g0_4, q_p0_4, q_g0_5, q_p0_5, q_g0_6, q_p0_6, q_g0_7, q_p0_7, q_g1_0, q_p1_0, q_g1_1, q_p1_1, q_g1_2, q_p1_2, q_g1_3, q_p1_3, q_g1_4, q_p1_4, q_g1_5, q_p1_5, q_g1_6, q_p1_6, q_g2_0, q_p2_0, q_g2_1, q_p2_1, q_g2_2, q_p2_2, q_g2_3, q_p2_3, q_g3_0, q_p3_0, q_g3_1, q_p3_1, q_g3_2, q_p3_2, q_g3_3, q_p3_3, q_g3_4, q_p3_4, q_g3_5, q_p3_5, q_g3_6, q_p3_6, q_g4_0, q_p4_0, q_g4_1, q_p4_1, q_g4_2, q_p4_2, q_g4_3, q_p4_3, q_g4_4, q_p4_4, q_g5_0, q_p5_0, q_g5_1, q_p5_1, q_g5_2, q_p5_2, q_g5_3, q_p5_3, q_g5_4, q_p5_4, q_g5_5, q_p5_5, q_g5_6, q_p5_6, q_g5_7, q_p5_7, q_g5_8, q_p5_8, q_g5_9, q_p5_9, q_g5_10, q_p5_10, q_g5_11, q_p5_11, q_g5_12, q_p5_12, q_g5_13, q_p5_13, q_g5_14, q_p5_14, q_g5_15, q_p5_15, m0]; rfl), ?_, ?_⟩
  · refine ⟨fun _ => 0, fun _ => 0, ?_, ?_, ?_, fun j hj => rfl, fun j hj => rfl⟩
    · simp (disch := first | exact cs_0 | exact cs_1 _ | exact cs_2 _ _ | exact cs_3 _ _ _ | exact cs_4 _ _ _ _ | exact j_one_i _ | exact j_one_r _ | exact j_one_n | omega) only [va_up_self, va_up_ne]
    · simp (disch := first | exact cs_0 | exact cs_1 _ | exact cs_2 _ _ | exact cs_3 _ _ _ | exact cs_4 _ _ _ _ | exact j_one_i _ | exact j_one_r _ | exact j_one_n | omega) only [va_up_self, va_up_ne, va_up_at]
    · simp (disch := first | exact cs_0 | exact cs_1 _ | exact cs_2 _ _ | exact cs_3 _ _ _ | exact cs_4 _ _ _ _ | exact j_one_i _ | exact j_one_r _ | exact j_one_n | omega) only [va_up_self, va_up_ne, va_up_at]
  · intro a q
    simp (disch := first | exact cs_0 | exact cs_1 _ | exact cs_2 _ _ | exact cs_3 _ _ _ | exact cs_4 _ _ _ _ | exact j_one_i _ | exact j_one_r _ | exact j_one_n | omega) only [va_up_ne]
theorem t_stNew {b : Nat} (hb : b < 800) (m0 : M b = .inr (2, j_df 2)) : ∃ M', Rn X (d + 3) 31 0 [some (.ref b)] [] M (b + 1, true, c, z) = some (.inl none, M', (b + 13, true, c + 12, z + 214)) ∧ isSt M' b (fresh 8) ∧ sm M M' b (b + 13) := by
  rw [df2] at m0
  obtain ⟨M1, hM1⟩ : ∃ M1, M1 = va_up M (b + 1) (.inr (0, j_df 0)) := ⟨_, rfl⟩
  have n1 : M1 (b + 1) = .inr (0, j_df 0) := by rw [hM1, va_up_self]
  obtain ⟨M2, e2, r2, s2⟩ := t_rgNew (X := X) (d := d + 1) (M := M1) (c := 0) (z := 0) (b := b + 1) (by omega) n1
  have a1 : M1 b = .inr (2, [.null, .null, .null, .int (zN 0)]) := by rw [hM1, va_up_ne _ _ (by omega), m0]
  have a2 := (s2 b (by omega)).trans a1
  obtain ⟨M3, hM3⟩ : ∃ M3, M3 = va_up (va_up M2 b (.inr (2, [.ref (b + 1), .null, .null, .int (zN 0)]))) (b + 1 + 6) (.inr (1, j_df 1)) := ⟨_, rfl⟩
  have n3 : M3 (b + 1 + 6) = .inr (1, j_df 1) := by rw [hM3, va_up_self]
  have a3 : M3 b = .inr (2, [.ref (b + 1), .null, .null, .int (zN 0)]) := by rw [hM3, va_up_ne _ _ (by omega), va_up_self]
  obtain ⟨M4, e4, r4, s4⟩ := t_shNew (X := X) (d := d + 1) (M := M3) (c := 0) (z := 0) (b := b + 1 + 6) (t := 164) (by omega) n3
  have a4 := (s4 b (by omega)).trans a3
  obtain ⟨M5, hM5⟩ : ∃ M5, M5 = va_up (va_up M4 b (.inr (2, [.ref (b + 1), .ref (b + 1 + 6), .null, .int (zN 0)]))) (b + 1 + 6 + 3) (.inr (1, j_df 1)) := ⟨_, rfl⟩
  have n5 : M5 (b + 1 + 6 + 3) = .inr (1, j_df 1) := by rw [hM5, va_up_self]
  have a5 : M5 b = .inr (2, [.ref (b + 1), .ref (b + 1 + 6), .null, .int (zN 0)]) := by rw [hM5, va_up_ne _ _ (by omega), va_up_self]
  obtain ⟨M6, e6, r6, s6⟩ := t_shNew (X := X) (d := d + 1) (M := M5) (c := 0) (z := 0) (b := b + 1 + 6 + 3) (t := 185) (by omega) n5
  have a6 := (s6 b (by omega)).trans a5
  obtain ⟨M7, hM7⟩ : ∃ M7, M7 = va_up M6 b (.inr (2, [.ref (b + 1), .ref (b + 1 + 6), .ref (b + 1 + 6 + 3), .int (zN 0)])) := ⟨_, rfl⟩
  have a7 : M7 b = .inr (2, [.ref (b + 1), .ref (b + 1 + 6), .ref (b + 1 + 6 + 3), .int (zN 0)]) := by rw [hM7, va_up_self]
  have S7 : isSt M7 b (fun _ => 0) := by
    refine ⟨a7, ?_, ?_, ?_⟩
    · refine isRing_fr r2 fun a q1 q2 => ?_
      rw [hM7, va_up_ne _ _ (by omega), s6 a (by omega), hM5, va_up_ne _ _ (by omega), va_up_ne _ _ (by omega), s4 a (by omega), hM3, va_up_ne _ _ (by omega), va_up_ne _ _ (by omega)]
    · refine isShip_fr r4 fun a q1 q2 => ?_
      rw [hM7, va_up_ne _ _ (by omega), s6 a (by omega), hM5, va_up_ne _ _ (by omega), va_up_ne _ _ (by omega)]
    · refine isShip_fr r6 fun a q1 q2 => ?_
      rw [hM7, va_up_ne _ _ (by omega)]
  obtain ⟨M8, e8, r8, s8⟩ := t_stRestart (X := X) (d := d) (h := (b + 1 + 6 + 3 + 3, true, 0, 0)) (n := 8) S7
  refine ⟨M8, ?_, r8, fun a q => ?_⟩
  · have hM1' := hM1.symm
    have hM3' := hM3.symm
    have hM5' := hM5.symm
    have hM7' := hM7.symm
    simp (disch := first | exact cs_0 | exact cs_1 _ | exact cs_2 _ _ | exact cs_3 _ _ _ | exact cs_4 _ _ _ _ | exact j_one_i _ | exact j_one_r _ | exact j_one_n | omega) only [e31_0, e31_1, e31_4, e31_5, e31_8, e31_8r, e31_9, e31_12, e31_15, e31_16, e31_19, e31_19r, e31_20, e31_23, e31_26, e31_27, e31_30, e31_30r, e31_31, e31_34, e31_37, e31_38, e31_40, e31_43, q_k_v, q_k_n, q_k_x, q_kc_v, q_kc_n, q_kc_x, q_rc, q_eq_t, q_eq_f, q_eq_nm, q_eq_mn, q_eq_mt, q_eq_mf, q_lt_t, q_lt_f, q_lt_mn, q_lt_nm, q_le_t, q_le_f, q_le_mn, q_le_nm, q_ac_t, q_ac_f, q_dv_n, q_rm_n, q_ld_n, q_lB_n, q_lJ_n, q_st_n, q_sB_n, q_sJ_n, q_sQ_n, q_cp_n, zN_add, zN_mul, zN_sub, zN_subm, zM_sub, zN_and, va_up_self, va_up_ne, j_add0, j_addt, ne_eq, not_false_eq_true, not_true_eq_false, Nat.reduceAdd, Nat.reduceSub, Nat.reduceMul, Nat.reduceMod, Nat.reduceEqDiff, q_g0_0, q_p0_0, q_g0_1, q_p0_1, q_g0_2, q_p0_2, q_g0_3, q_p0_3, q_g0_4, q_p0_4, q_g0_5, q_p0_5, q_g0_6, q_p0_6, q_g0_7, q_p0_7, q_g1_0, q_p1_0, q_g1_1, q_p1_1, q_g1_2, q_p1_2, q_g1_3, q_p1_3, q_g1_4, q_p1_4, q_g1_5, q_p1_5, q_g1_6, q_p1_6, q_g2_0, q_p2_0, q_g2_1, q_p2_1, q_g2_2, q_p2_2, q_g2_3, q_p2_3, q_g3_0, q_p3_0, q_g3_1, q_p3_1, q_g3_2, q_p3_2, q_g3_3, q_p3_3, q_g3_4, q_p3_4, q_g3_5, q_p3_5, q_g3_6, q_p3_6, q_g4_0, q_p4_0, q_g4_1, q_p4_1, q_g4_2, q_p4_2, q_g4_3, q_p4_3, q_g4_4, q_p4_4, q_g5_0, q_p5_0, q_g5_1, q_p5_1, q_g5_2, q_p5_2, q_g5_3, q_p5_3, q_g5_4, q_p5_4, q_g5_5, q_p5_5, q_g5_6, q_p5_6, q_g5_7, q_p5_7, q_g5_8, q_p5_8, q_g5_9, q_p5_9, q_g5_10, q_p5_10, q_g5_11, q_p5_11, q_g5_12, q_p5_12, q_g5_13, q_p5_13, q_g5_14, q_p5_14, q_g5_15, q_p5_15, m0, hM1', n1, j_addp, j_h0p, e2, a2, hM3', n3, e4, a4, hM5', n5, e6, a6, hM7', a7, e8]
    rfl
  · rw [s8 a (by omega), hM7, va_up_ne _ _ (by omega), s6 a (by omega), hM5, va_up_ne _ _ (by omega), va_up_ne _ _ (by omega), s4 a (by omega), hM3, va_up_ne _ _ (by omega), va_up_ne _ _ (by omega), s2 a (by omega), hM1, va_up_ne _ _ (by omega)]
theorem t_objNew (m0 : M 0 = .inr (4, j_df 4)) : ∃ M', Rn X (d + 5) 61 0 [some (.ref 0), none] [] M (1, true, c, z) = some (.inl none, M', (70, true, c + 69, z + 1209)) ∧ isO M' (fresh 8) 0 (fun _ => fresh 8) 0 (fun _ => 0) ∧ sm M M' 0 70 := by
  rw [df4] at m0
  obtain ⟨M1, hM1⟩ : ∃ M1, M1 = va_up M 1 (.inr (2, j_df 2)) := ⟨_, rfl⟩
  have n1 : M1 1 = .inr (2, j_df 2) := by rw [hM1, va_up_self]
  obtain ⟨M2, e2, r2, s2⟩ := t_stNew (X := X) (d := d + 1) (M := M1) (c := 0) (z := 0) (b := 1) (by omega) n1
  have a2 : M2 0 = .inr (4, [.null, .null, .int (zN 0), .null, .null]) := by rw [s2 0 (by omega), hM1, va_up_ne _ _ (by omega), m0]
  obtain ⟨M3, hM3⟩ : ∃ M3, M3 = va_up (va_up (va_up (va_up (va_up (va_up (va_up (va_up (va_up M2 0 (.inr (4, [.ref 1, .null, .int (zN 0), .null, .null]))) 14 (.inl (2, 4, .inr (.inr (.inr (.inr (fun _ => none))))))) 0 (.inr (4, [.ref 1, .ref 14, .int (zN 0), .null, .null]))) 15 (.inr (3, [.int (zN 0), .null, .int (zN 0), .int (zN 0), .int (zN 0), .int (zN 0), .int (zN 0)]))) 16 (.inl (1, 100, .inl (fun _ => 0)))) 15 (.inr (3, [.int (zN 0), .ref 16, .int (zN 0), .int (zM 0), .int (zN 0), .int (zN 0), .int (zN 0)]))) 0 (.inr (4, [.ref 1, .ref 14, .int (zN 0), .ref 15, .null]))) 17 (.inl (0, 8, .inl (fun _ => 0)))) 0 (.inr (4, [.ref 1, .ref 14, .int (zN 0), .ref 15, .ref 17])) := ⟨_, rfl⟩
  have k0 : M3 0 = .inr (4, [.ref 1, .ref 14, .int (zN 0), .ref 15, .ref 17]) := by rw [hM3, va_up_self]
  have k14 : M3 14 = .inl (2, 4, .inr (.inr (.inr (.inr (fun _ => none))))) := by
    rw [hM3]
    simp (disch := first | exact cs_0 | exact cs_1 _ | exact cs_2 _ _ | exact cs_3 _ _ _ | exact cs_4 _ _ _ _ | exact j_one_i _ | exact j_one_r _ | exact j_one_n | omega) only [va_up_ne, va_up_self]
  have k15 : M3 15 = .inr (3, [.int (zN 0), .ref 16, .int (zN 0), .int (zM 0), .int (zN 0), .int (zN 0), .int (zN 0)]) := by
    rw [hM3]
    simp (disch := first | exact cs_0 | exact cs_1 _ | exact cs_2 _ _ | exact cs_3 _ _ _ | exact cs_4 _ _ _ _ | exact j_one_i _ | exact j_one_r _ | exact j_one_n | omega) only [va_up_ne, va_up_self]
  have k16 : M3 16 = .inl (1, 100, .inl (fun _ => 0)) := by
    rw [hM3]
    simp (disch := first | exact cs_0 | exact cs_1 _ | exact cs_2 _ _ | exact cs_3 _ _ _ | exact cs_4 _ _ _ _ | exact j_one_i _ | exact j_one_r _ | exact j_one_n | omega) only [va_up_ne, va_up_self]
  have k17 : M3 17 = .inl (0, 8, .inl (fun _ => 0)) := by
    rw [hM3]
    simp (disch := first | exact cs_0 | exact cs_1 _ | exact cs_2 _ _ | exact cs_3 _ _ _ | exact cs_4 _ _ _ _ | exact j_one_i _ | exact j_one_r _ | exact j_one_n | omega) only [va_up_ne, va_up_self]
  have q3 : ∀ a, a ≠ 0 → (a < 14 ∨ 18 ≤ a) → M3 a = M2 a := fun a h1 h2 => by
    rw [hM3]
    simp (disch := first | exact cs_0 | exact cs_1 _ | exact cs_2 _ _ | exact cs_3 _ _ _ | exact cs_4 _ _ _ _ | exact j_one_i _ | exact j_one_r _ | exact j_one_n | omega) only [va_up_ne]
  have step : ∀ (i : Nat) (Ma : jM) (S : Nat → Option Nat), i < 4 → Ma 14 = .inl (2, 4, .inr (.inr (.inr (.inr S)))) → ∃ Mb, Rn X (d + 4) 31 0 [some (.ref (18 + 13 * i))] [] (va_up Ma (18 + 13 * i) (.inr (2, j_df 2))) (18 + 13 * i + 1, true, 0, 0) = some (.inl none, Mb, (18 + 13 * i + 13, true, 0 + 12, 0 + 214)) ∧ isSt Mb (18 + 13 * i) (fresh 8) ∧ (∀ a, a < 18 + 13 * i ∨ 18 + 13 * i + 13 ≤ a → Mb a = Ma a) := by
    intro i Ma S hi h14
    obtain ⟨Mb, e, r, s⟩ := t_stNew (X := X) (d := d + 1) (M := va_up Ma (18 + 13 * i) (.inr (2, j_df 2))) (c := 0) (z := 0) (b := 18 + 13 * i) (by omega) (va_up_self _ _ _)
    exact ⟨Mb, e, r, fun a q => by rw [s a q, va_up_ne _ _ (by omega)]⟩
  obtain ⟨A0, e0, r0, s0⟩ := step 0 M3 _ (by omega) k14
  obtain ⟨B0, hB0⟩ : ∃ B0, B0 = va_up A0 14 (.inl (2, 4, .inr (.inr (.inr (.inr (va_up (fun _ => none) 0 (some 18))))))) := ⟨_, rfl⟩
  have b0 : B0 14 = .inl (2, 4, .inr (.inr (.inr (.inr (va_up (fun _ => none) 0 (some 18)))))) := by rw [hB0, va_up_self]
  have c0 : A0 14 = .inl (2, 4, .inr (.inr (.inr (.inr (fun _ => none))))) := by rw [s0 _ (by omega), k14]
  obtain ⟨A1, e1, r1, s1⟩ := step 1 B0 _ (by omega) b0
  obtain ⟨B1, hB1⟩ : ∃ B1, B1 = va_up A1 14 (.inl (2, 4, .inr (.inr (.inr (.inr (va_up (va_up (fun _ => none) 0 (some 18)) 1 (some 31))))))) := ⟨_, rfl⟩
  have b1 : B1 14 = .inl (2, 4, .inr (.inr (.inr (.inr (va_up (va_up (fun _ => none) 0 (some 18)) 1 (some 31)))))) := by rw [hB1, va_up_self]
  have c1 : A1 14 = .inl (2, 4, .inr (.inr (.inr (.inr (va_up (fun _ => none) 0 (some 18)))))) := by rw [s1 _ (by omega), b0]
  obtain ⟨A2, e2', r2', s2'⟩ := step 2 B1 _ (by omega) b1
  obtain ⟨B2, hB2⟩ : ∃ B2, B2 = va_up A2 14 (.inl (2, 4, .inr (.inr (.inr (.inr (va_up (va_up (va_up (fun _ => none) 0 (some 18)) 1 (some 31)) 2 (some 44))))))) := ⟨_, rfl⟩
  have b2 : B2 14 = .inl (2, 4, .inr (.inr (.inr (.inr (va_up (va_up (va_up (fun _ => none) 0 (some 18)) 1 (some 31)) 2 (some 44)))))) := by rw [hB2, va_up_self]
  have c2 : A2 14 = .inl (2, 4, .inr (.inr (.inr (.inr (va_up (va_up (fun _ => none) 0 (some 18)) 1 (some 31)))))) := by rw [s2' _ (by omega), b1]
  obtain ⟨A3, e3, r3, s3⟩ := step 3 B2 _ (by omega) b2
  obtain ⟨B3, hB3⟩ : ∃ B3, B3 = va_up A3 14 (.inl (2, 4, .inr (.inr (.inr (.inr (va_up (va_up (va_up (va_up (fun _ => none) 0 (some 18)) 1 (some 31)) 2 (some 44)) 3 (some 57))))))) := ⟨_, rfl⟩
  have b3 : B3 14 = .inl (2, 4, .inr (.inr (.inr (.inr (va_up (va_up (va_up (va_up (fun _ => none) 0 (some 18)) 1 (some 31)) 2 (some 44)) 3 (some 57)))))) := by rw [hB3, va_up_self]
  have c3 : A3 14 = .inl (2, 4, .inr (.inr (.inr (.inr (va_up (va_up (va_up (fun _ => none) 0 (some 18)) 1 (some 31)) 2 (some 44)))))) := by rw [s3 _ (by omega), b2]
  have z0 : A0 0 = .inr (4, [.ref 1, .ref 14, .int (zN 0), .ref 15, .ref 17]) := by rw [s0 _ (by omega), k0]
  have z0' : B0 0 = .inr (4, [.ref 1, .ref 14, .int (zN 0), .ref 15, .ref 17]) := by rw [hB0, va_up_ne _ _ (by omega), z0]
  have z1 : A1 0 = .inr (4, [.ref 1, .ref 14, .int (zN 0), .ref 15, .ref 17]) := by rw [s1 _ (by omega), z0']
  have z1' : B1 0 = .inr (4, [.ref 1, .ref 14, .int (zN 0), .ref 15, .ref 17]) := by rw [hB1, va_up_ne _ _ (by omega), z1]
  have z2 : A2 0 = .inr (4, [.ref 1, .ref 14, .int (zN 0), .ref 15, .ref 17]) := by rw [s2' _ (by omega), z1']
  have z2' : B2 0 = .inr (4, [.ref 1, .ref 14, .int (zN 0), .ref 15, .ref 17]) := by rw [hB2, va_up_ne _ _ (by omega), z2]
  have z3 : A3 0 = .inr (4, [.ref 1, .ref 14, .int (zN 0), .ref 15, .ref 17]) := by rw [s3 _ (by omega), z2']
  have w0 : A0 18 = .inr (2, _) := r0.1
  have w1 : A1 31 = .inr (2, _) := r1.1
  have w2 : A2 44 = .inr (2, _) := r2'.1
  have w3 : A3 57 = .inr (2, _) := r3.1
  have low : ∀ a, a < 18 → a ≠ 14 → B3 a = M3 a := fun a h1 h2 => by
    rw [hB3, va_up_ne _ _ h2, s3 _ (by omega), hB2, va_up_ne _ _ h2, s2' _ (by omega), hB1, va_up_ne _ _ h2, s1 _ (by omega), hB0, va_up_ne _ _ h2, s0 _ (by omega)]
  have e0 : Rn X (d + 4) 31 0 [some (.ref 18)] [] (va_up M3 18 (.inr (2, j_df 2))) (19, true, 0, 0) = some (.inl none, A0, (31, true, 12, 214)) := e0
  have e1 : Rn X (d + 4) 31 0 [some (.ref 31)] [] (va_up B0 31 (.inr (2, j_df 2))) (32, true, 0, 0) = some (.inl none, A1, (44, true, 12, 214)) := e1
  have e2' : Rn X (d + 4) 31 0 [some (.ref 44)] [] (va_up B1 44 (.inr (2, j_df 2))) (45, true, 0, 0) = some (.inl none, A2, (57, true, 12, 214)) := e2'
  have e3 : Rn X (d + 4) 31 0 [some (.ref 57)] [] (va_up B2 57 (.inr (2, j_df 2))) (58, true, 0, 0) = some (.inl none, A3, (70, true, 12, 214)) := e3
  have e2 : Rn X (d + 4) 31 0 [some (.ref 1)] [] M1 (2, true, 0, 0) = some (.inl none, M2, (14, true, 12, 214)) := e2
  refine ⟨B3, ?_, ⟨⟨fun k => k, va_up (va_up (va_up (va_up (fun _ => none) 0 (some 18)) 1 (some 31)) 2 (some 44)) 3 (some 57), ?_, b3, ?_, fun i j _ _ e => e, ?_, ?_, by omega⟩, ⟨fun _ => 0, zN 0, zM 0, zN 0, zN 0, zN 0, ?_, ?_, fun j hj => absurd hj (Nat.not_lt_zero j)⟩, ⟨fun _ => 0, ?_⟩, by omega⟩, ?_⟩
  · have hM1' := hM1.symm
    have hM3' := hM3.symm
    have hB0' := hB0.symm
    have hB1' := hB1.symm
    have hB2' := hB2.symm
    have hB3' := hB3.symm
    simp (disch := first | exact cs_0 | exact cs_1 _ | exact cs_2 _ _ | exact cs_3 _ _ _ | exact cs_4 _ _ _ _ | exact j_one_i _ | exact j_one_r _ | exact j_one_n | omega) only [e61_0, e61_1, e61_4, e61_5, e61_8, e61_8r, e61_9, e61_12, e61_15, e61_16, e61_17, e61_20, e61_23, e61_24, e61_25, e61_28, e61_29, e61_32, e61_32r, e61_33, e61_36, e61_39, e61_40, e61_42, e61_44, e61_48, e61_49, e61_50, e61_51, e61_54, e61_55, e61_58, e61_59, e61_62, e61_62r, e61_63, e61_66, e61_67, e61_70, e61_73, e46_0, e46_1, e46_4, e46_5, e46_6, e46_9, e46_10, e46_12, e46_14, e46_17, e46_18, e46_19, e46_22, e46_23, e46_24, e46_27, e46_28, e46_29, e46_32, e46_33, e46_34, e46_37, e46_38, e46_39, e46_42, q_k_v, q_k_n, q_k_x, q_kc_v, q_kc_n, q_kc_x, q_rc, q_eq_t, q_eq_f, q_eq_nm, q_eq_mn, q_eq_mt, q_eq_mf, q_lt_t, q_lt_f, q_lt_mn, q_lt_nm, q_le_t, q_le_f, q_le_mn, q_le_nm, q_ac_t, q_ac_f, q_dv_n, q_rm_n, q_ld_n, q_lB_n, q_lJ_n, q_st_n, q_sB_n, q_sJ_n, q_sQ_n, q_cp_n, zN_add, zN_mul, zN_sub, zN_subm, zM_sub, zN_and, va_up_self, va_up_ne, j_add0, j_addt, ne_eq, not_false_eq_true, not_true_eq_false, Nat.reduceAdd, Nat.reduceSub, Nat.reduceMul, Nat.reduceMod, Nat.reduceEqDiff, q_g0_0, q_p0_0, q_g0_1, q_p0_1, q_g0_2, q_p0_2, q_g0_3, q_p0_3, q_g0_4, q_p0_4, q_g0_5, q_p0_5, q_g0_6, q_p0_6, q_g0_7, q_p0_7, q_g1_0, q_p1_0, q_g1_1, q_p1_1, q_g1_2, q_p1_2, q_g1_3, q_p1_3, q_g1_4, q_p1_4, q_g1_5, q_p1_5, q_g1_6, q_p1_6, q_g2_0, q_p2_0, q_g2_1, q_p2_1, q_g2_2, q_p2_2, q_g2_3, q_p2_3, q_g3_0, q_p3_0, q_g3_1, q_p3_1, q_g3_2, q_p3_2, q_g3_3, q_p3_3, q_g3_4, q_p3_4, q_g3_5, q_p3_5, q_g3_6, q_p3_6, q_g4_0, q_p4_0, q_g4_1, q_p4_1, q_g4_2, q_p4_2, q_g4_3, q_p4_3, q_g4_4, q_p4_4, q_g5_0, q_p5_0, q_g5_1, q_p5_1, q_g5_2, q_p5_2, q_g5_3, q_p5_3, q_g5_4, q_p5_4, q_g5_5, q_p5_5, q_g5_6, q_p5_6, q_g5_7, q_p5_7, q_g5_8, q_p5_8, q_g5_9, q_p5_9, q_g5_10, q_p5_10, q_g5_11, q_p5_11, q_g5_12, q_p5_12, q_g5_13, q_p5_13, q_g5_14, q_p5_14, q_g5_15, q_p5_15, m0, hM1', n1, j_addp, j_h0p, e2, a2, df3, vu_up]
    rw [hM3']
    simp (disch := first | exact cs_0 | exact cs_1 _ | exact cs_2 _ _ | exact cs_3 _ _ _ | exact cs_4 _ _ _ _ | exact j_one_i _ | exact j_one_r _ | exact j_one_n | omega) only [e61_0, e61_1, e61_4, e61_5, e61_8, e61_8r, e61_9, e61_12, e61_15, e61_16, e61_17, e61_20, e61_23, e61_24, e61_25, e61_28, e61_29, e61_32, e61_32r, e61_33, e61_36, e61_39, e61_40, e61_42, e61_44, e61_47, e61_48, e61_49, e61_50, e61_51, e61_54, e61_55, e61_58, e61_59, e61_62, e61_62r, e61_63, e61_66, e61_67, e61_70, e61_73, q_k_v, q_k_n, q_k_x, q_kc_v, q_kc_n, q_kc_x, q_rc, q_eq_t, q_eq_f, q_eq_nm, q_eq_mn, q_eq_mt, q_eq_mf, q_lt_t, q_lt_f, q_lt_mn, q_lt_nm, q_le_t, q_le_f, q_le_mn, q_le_nm, q_ac_t, q_ac_f, q_dv_n, q_rm_n, q_ld_n, q_lB_n, q_lJ_n, q_st_n, q_sB_n, q_sJ_n, q_sQ_n, q_cp_n, zN_add, zN_mul, zN_sub, zN_subm, zM_sub, zN_and, va_up_self, va_up_ne, j_add0, j_addt, ne_eq, not_false_eq_true, not_true_eq_false, Nat.reduceAdd, Nat.reduceSub, Nat.reduceMul, Nat.reduceMod, Nat.reduceEqDiff, q_g0_0, q_p0_0, q_g0_1, q_p0_1, q_g0_2, q_p0_2, q_g0_3, q_p0_3, q_g0_4, q_p0_4, q_g0_5, q_p0_5, q_g0_6, q_p0_6, q_g0_7, q_p0_7, q_g1_0, q_p1_0, q_g1_1, q_p1_1, q_g1_2, q_p1_2, q_g1_3, q_p1_3, q_g1_4, q_p1_4, q_g1_5, q_p1_5, q_g1_6, q_p1_6, q_g2_0, q_p2_0, q_g2_1, q_p2_1, q_g2_2, q_p2_2, q_g2_3, q_p2_3, q_g3_0, q_p3_0, q_g3_1, q_p3_1, q_g3_2, q_p3_2, q_g3_3, q_p3_3, q_g3_4, q_p3_4, q_g3_5, q_p3_5, q_g3_6, q_p3_6, q_g4_0, q_p4_0, q_g4_1, q_p4_1, q_g4_2, q_p4_2, q_g4_3, q_p4_3, q_g4_4, q_p4_4, q_g5_0, q_p5_0, q_g5_1, q_p5_1, q_g5_2, q_p5_2, q_g5_3, q_p5_3, q_g5_4, q_p5_4, q_g5_5, q_p5_5, q_g5_6, q_p5_6, q_g5_7, q_p5_7, q_g5_8, q_p5_8, q_g5_9, q_p5_9, q_g5_10, q_p5_10, q_g5_11, q_p5_11, q_g5_12, q_p5_12, q_g5_13, q_p5_13, q_g5_14, q_p5_14, q_g5_15, q_p5_15, k0, k14, j_addp, j_h0p, e0, c0, z0, z0', w0, hB0', b0, e1, c1, z1, z1', w1, hB1', b1, e2', c2, z2, z2', w2, hB2', b2, e3, c3, z3, w3, hB3', b3]
    rfl
  · rw [low 0 (by omega) (by omega), k0]
  · intro k hk
    obtain rfl | rfl | rfl | rfl : k = 0 ∨ k = 1 ∨ k = 2 ∨ k = 3 := by omega
    · exact ⟨rfl, by omega⟩
    · exact ⟨rfl, by omega⟩
    · exact ⟨rfl, by omega⟩
    · exact ⟨rfl, by omega⟩
  · refine isSt_fr r2 fun a h1 h2 => ?_
    rw [low a (by omega) (by omega), q3 a (by omega) (by omega)]
  · intro k hk
    obtain rfl | rfl | rfl | rfl : k = 0 ∨ k = 1 ∨ k = 2 ∨ k = 3 := by omega
    · refine isSt_fr r0 fun a h1 h2 => ?_
      dsimp only at h1 h2
      rw [hB3, va_up_ne _ _ (by omega), s3 _ (by omega), hB2, va_up_ne _ _ (by omega), s2' _ (by omega), hB1, va_up_ne _ _ (by omega), s1 _ (by omega), hB0, va_up_ne _ _ (by omega)]
    · refine isSt_fr r1 fun a h1 h2 => ?_
      dsimp only at h1 h2
      rw [hB3, va_up_ne _ _ (by omega), s3 _ (by omega), hB2, va_up_ne _ _ (by omega), s2' _ (by omega), hB1, va_up_ne _ _ (by omega)]
    · refine isSt_fr r2' fun a h1 h2 => ?_
      dsimp only at h1 h2
      rw [hB3, va_up_ne _ _ (by omega), s3 _ (by omega), hB2, va_up_ne _ _ (by omega)]
    · refine isSt_fr r3 fun a h1 h2 => ?_
      dsimp only at h1 h2
      rw [hB3, va_up_ne _ _ (by omega)]
  · rw [low 15 (by omega) (by omega), k15]
  · rw [low 16 (by omega) (by omega), k16]
  · rw [low 17 (by omega) (by omega), k17]
  · intro a q
    rw [hB3, va_up_ne _ _ (by omega), s3 _ (by omega), hB2, va_up_ne _ _ (by omega), s2' _ (by omega), hB1, va_up_ne _ _ (by omega), s1 _ (by omega), hB0, va_up_ne _ _ (by omega), s0 _ (by omega), q3 a (by omega) (by omega), s2 a (by omega), hM1, va_up_ne _ _ (by omega)]
end
