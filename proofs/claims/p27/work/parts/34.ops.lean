/-! the class's states: what its methods do -/
def okS (v : rw_) (t : Nat) : Prop := v 1 ≤ v (t + 4) ∧ v (t + 4) ≤ v t ∧ v t ≤ v 2 ∧ v (t + 1) < 2 ∧ (∀ j, j < 8 → v (t + 5 + j) ≤ 999) ∧ ∀ j, j < 8 → v (t + 13 + j) ≤ 999
/-- a row that can be -/
def okV (v : rw_) (B : Nat) : Prop := 4 ≤ v 0 ∧ v 0 ≤ 32 ∧ v 1 ≤ v 2 ∧ v 2 - v 1 ≤ v 0 ∧ v 2 ≤ B ∧ (∀ p, v 1 ≤ p → p < v 2 → okO v p) ∧ okS v 164 ∧ okS v 185
theorem isSt_sh {M : jM} {b s : Nat} {v : rw_} (h : isSt M b v) (hs : s < 2) : isShip M (b + 7 + 3 * s) v (164 + 21 * s) := by
  obtain rfl | rfl : s = 0 ∨ s = 1 := by omega
  · exact h.2.2.1
  · exact h.2.2.2
theorem okV_s {v : rw_} {B s : Nat} (h : okV v B) (hs : s < 2) : okS v (164 + 21 * s) := by
  obtain rfl | rfl : s = 0 ∨ s = 1 := by omega
  · exact h.2.2.2.2.2.2.1
  · exact h.2.2.2.2.2.2.2
theorem isRing_low {M : jM} {b : Nat} {v v' : rw_} (h : isRing M b v) (hv : ∀ j, j < 164 → v' j = v j) : isRing M b v' :=
  isRing_v h (hv 0 (by omega)) (hv 1 (by omega)) (hv 2 (by omega)) fun p w hw => od_eq hv p hw
/-- one ship of a state has changed -/
theorem st_ship {M M' : jM} {c s : Nat} {v v' : rw_} (hs : s < 2) (h : isSt M c v) (h1 : isShip M' (c + 7 + 3 * s) v' (164 + 21 * s)) (hm : sm M M' (c + 7 + 3 * s) (c + 7 + 3 * s + 3)) (hv : ∀ j, j < 164 ∨ (164 + 21 * (1 - s) ≤ j ∧ j < 185 + 21 * (1 - s)) → v' j = v j) : isSt M' c v' ∧ sm M M' c (c + 13) := by
  refine ⟨⟨?_, ?_, ?_, ?_⟩, sm_w hm (by omega) (by omega)⟩
  · rw [hm c (by omega), hv 3 (by omega)]
    exact h.1
  · exact isRing_low (isRing_fr h.2.1 fun a q1 q2 => hm a (by omega)) fun j hj => hv j (by omega)
  · obtain rfl | rfl : s = 0 ∨ s = 1 := by omega
    · exact h1
    · exact isShip_v (isShip_fr h.2.2.1 fun a q1 q2 => hm a (by omega)) fun j hj => hv _ (by omega)
  · obtain rfl | rfl : s = 0 ∨ s = 1 := by omega
    · exact isShip_v (isShip_fr h.2.2.2 fun a q1 q2 => hm a (by omega)) fun j hj => hv _ (by omega)
    · exact h1
section
variable {X : jX} {d : Nat} {M : jM} {h : jH}
theorem t_shRestart {b t t' : Nat} {u v : rw_} (hb : isShip M b u t') (hv : ∀ j, j < 21 → v (t + j) = if j = 1 then 1 else 0) :
    ∃ M', Rn X (d + 1) 25 0 [some (.ref b), none] [] M h = some (.inl none, M', h) ∧ isShip M' b v t ∧ sm M M' b (b + 3) := by
  obtain ⟨F, G, a1, a2, a3, a4, a5⟩ := hb
  refine ⟨_, by (simp (disch := first | exact cs_0 | exact cs_1 _ | exact cs_2 _ _ | exact cs_3 _ _ _ | exact cs_4 _ _ _ _ | exact j_one_i _ | exact j_one_r _ | exact j_one_n | omega) only [e25_0, e25_1, e25_2, e25_5, e25_6, e25_7, e25_10, e25_11, e25_12, e25_15, e25_16, e25_17, e25_20, e25_21, e25_22, e25_25, e25_26, e25_27, e25_28, e25_30, e25_33, e25_34, e25_37, e25_38, e25_39, e25_40, e25_41, e25_44, e25_45, e25_46, e25_47, e25_50, e25_53, q_k_v, q_k_n, q_k_x, q_kc_v, q_kc_n, q_kc_x, q_rc, q_eq_t, q_eq_f, q_eq_nm, q_eq_mn, q_eq_mt, q_eq_mf, q_lt_t, q_lt_f, q_lt_mn, q_lt_nm, q_le_t, q_le_f, q_le_mn, q_le_nm, q_ac_t, q_ac_f, q_dv_n, q_rm_n, q_ld_n, q_lB_n, q_lJ_n, q_st_n, q_sB_n, q_sJ_n, q_sQ_n, q_cp_n, zN_add, zN_mul, zN_sub, zN_subm, zM_sub, zN_and, va_up_self, va_up_ne, j_add0, j_addt, ne_eq, not_false_eq_true, not_true_eq_false, Nat.reduceAdd, Nat.reduceSub, Nat.reduceMul, Nat.reduceMod, Nat.reduceEqDiff, q_g0_0, q_p0_0, q_g0_1, q_p0_1, q_g0_2, q_p0_2, q_g0_3, q_p0_3, q_g0_4, q_p0_4, q_g0_5, q_p0_5, q_g0_6, q_p0_6, q_g0_7, q_p0_7, q_g1_0, q_p1_0, q_g1_1, q_p1_1, q_g1_2, q_p1_2, q_g1_3, q_p1_3, q_g1_4, q_p1_4, q_g1_5, q_p1_5, q_g1_6, q_p1_6, q_g2_0, q_p2_0, q_g2_1, q_p2_1, q_g2_2, q_p2_2, q_g2_3, q_p2_3, q_g3_0, q_p3_0, q_g3_1, q_p3_1, q_g3_2, q_p3_2, q_g3_3, q_p3_3, q_g3_4, q_p3_4, q_g3_5, q_p3_5, q_g3_6, q_p3_6, q_g4_0, q_p4_0, q_g4_1, q_p4_1, q_g4_2, q_p4_2, q_g4_3, q_p4_3, q_g4_4, q_p4_4, q_g5_0, q_p5_0, q_g5_1, q_p5_1, q_g5_2, q_p5_2, q_g5_3, q_p5_3, q_g5_4, q_p5_4, q_g5_5, q_p5_5, q_g5_6, q_p5_6, q_g5_7, q_p5_7, q_g5_8, q_p5_8, q_g5_9, q_p5_9, q_g5_10, q_p5_10, q_g5_11, q_p5_11, q_g5_12, q_p5_12, q_g5_13, q_p5_13, q_g5_14, q_p5_14, q_g5_15, q_p5_15, a1, a2, a3]; rfl), ?_, ?_⟩
  · have e0 := hv 0 (by omega)
    rw [Nat.add_zero, if_neg (by omega)] at e0
    have e1 := hv 1 (by omega)
    rw [if_pos rfl] at e1
    have e2 := hv 2 (by omega)
    rw [if_neg (by omega)] at e2
    have e3 := hv 3 (by omega)
    rw [if_neg (by omega)] at e3
    have e4 := hv 4 (by omega)
    rw [if_neg (by omega)] at e4
    refine ⟨_, _, ?_, by (simp (disch := first | exact cs_0 | exact cs_1 _ | exact cs_2 _ _ | exact cs_3 _ _ _ | exact cs_4 _ _ _ _ | exact j_one_i _ | exact j_one_r _ | exact j_one_n | omega) only [va_up_self, va_up_ne]; rfl), by (simp (disch := first | exact cs_0 | exact cs_1 _ | exact cs_2 _ _ | exact cs_3 _ _ _ | exact cs_4 _ _ _ _ | exact j_one_i _ | exact j_one_r _ | exact j_one_n | omega) only [va_up_self, va_up_ne]; rfl), ?_, ?_⟩
    · simp (disch := first | exact cs_0 | exact cs_1 _ | exact cs_2 _ _ | exact cs_3 _ _ _ | exact cs_4 _ _ _ _ | exact j_one_i _ | exact j_one_r _ | exact j_one_n | omega) only [va_up_self, va_up_ne, e0, e1, e2, e3, e4]
    · intro j hj
      rw [Nat.add_assoc, hv (5 + j) (by omega), if_neg (by omega)]
      obtain rfl | rfl | rfl | rfl | rfl | rfl | rfl | rfl : j = 0 ∨ j = 1 ∨ j = 2 ∨ j = 3 ∨ j = 4 ∨ j = 5 ∨ j = 6 ∨ j = 7 := by omega
      all_goals simp (disch := first | exact cs_0 | exact cs_1 _ | exact cs_2 _ _ | exact cs_3 _ _ _ | exact cs_4 _ _ _ _ | exact j_one_i _ | exact j_one_r _ | exact j_one_n | omega) only [va_up_self, va_up_ne]
    · intro j hj
      rw [Nat.add_assoc, hv (13 + j) (by omega), if_neg (by omega)]
      obtain rfl | rfl | rfl | rfl | rfl | rfl | rfl | rfl : j = 0 ∨ j = 1 ∨ j = 2 ∨ j = 3 ∨ j = 4 ∨ j = 5 ∨ j = 6 ∨ j = 7 := by omega
      all_goals simp (disch := first | exact cs_0 | exact cs_1 _ | exact cs_2 _ _ | exact cs_3 _ _ _ | exact cs_4 _ _ _ _ | exact j_one_i _ | exact j_one_r _ | exact j_one_n | omega) only [va_up_self, va_up_ne]
  · intro a q
    simp (disch := first | exact cs_0 | exact cs_1 _ | exact cs_2 _ _ | exact cs_3 _ _ _ | exact cs_4 _ _ _ _ | exact j_one_i _ | exact j_one_r _ | exact j_one_n | omega) only [va_up_ne]
theorem fresh_s {n t : Nat} (ht : t = 164 ∨ t = 185) : ∀ j, j < 21 → fresh n (t + j) = if j = 1 then 1 else 0 := by
  intro j hj
  unfold fresh
  rw [if_neg (by omega)]
  by_cases c : j = 1
  · rw [if_pos (by omega), if_pos c]
  · rw [if_neg (by omega), if_neg c]
theorem t_stRestart {b n : Nat} {u : rw_} (hb : isSt M b u) :
    ∃ M', Rn X (d + 2) 32 0 [some (.ref b), some (.int (zN n))] [] M h = some (.inl none, M', h) ∧ isSt M' b (fresh n) ∧ sm M M' b (b + 13) := by
  obtain ⟨a0, ⟨K0, K1, K2, K3, K4, r0, r1, r2, r3, r4, r5, r6⟩, a2, a3⟩ := hb
  obtain ⟨M1, e1⟩ : ∃ M1, M1 = va_up M (b + 1) (.inr (0, [.int (zN n), .int (zN 0), .int (zN 0), .ref (b + 1 + 1), .ref (b + 1 + 2), .ref (b + 1 + 3), .ref (b + 1 + 4), .ref (b + 1 + 5)])) := ⟨_, rfl⟩
  have s1 : sm M M1 (b + 1) (b + 2) := fun a q => by rw [e1, va_up_ne _ _ (by omega)]
  obtain ⟨M2, e2, p2, s2⟩ := t_shRestart (X := X) (d := d) (h := j_h0 h) (v := fresh n) (isShip_fr (M' := M1) a2 fun a q1 q2 => s1 a (by omega)) (fresh_s (t := 164) (by omega))
  obtain ⟨M3, e3, p3, s3⟩ := t_shRestart (X := X) (d := d) (h := j_h0 h) (v := fresh n) (isShip_fr (M' := M2) (isShip_fr (M' := M1) a3 fun a q1 q2 => s1 a (by omega)) fun a q1 q2 => s2 a (by omega)) (fresh_s (t := 185) (by omega))
  obtain ⟨F, G, c2, -⟩ := id a2
  obtain ⟨F', G', c3, -⟩ := id a3
  have a01 := (s1 b (by omega)).trans a0
  have a02 := (s2 b (by omega)).trans a01
  have a03 := (s3 b (by omega)).trans a02
  have c2' := (s1 (b + 7) (by omega)).trans c2
  have c3' := (s2 (b + 10) (by omega)).trans ((s1 (b + 10) (by omega)).trans c3)
  have e1' := e1.symm
  refine ⟨_, by (simp (disch := first | exact cs_0 | exact cs_1 _ | exact cs_2 _ _ | exact cs_3 _ _ _ | exact cs_4 _ _ _ _ | exact j_one_i _ | exact j_one_r _ | exact j_one_n | omega) only [e32_0, e32_1, e32_4, e32_5, e32_8, e32_9, e32_12, e32_15, e32_16, e32_19, e32_22, e32_23, e32_24, e32_27, e2_0, e2_1, e2_2, e2_5, e2_6, e2_7, e2_10, e2_11, e2_12, e2_15, q_k_v, q_k_n, q_k_x, q_kc_v, q_kc_n, q_kc_x, q_rc, q_eq_t, q_eq_f, q_eq_nm, q_eq_mn, q_eq_mt, q_eq_mf, q_lt_t, q_lt_f, q_lt_mn, q_lt_nm, q_le_t, q_le_f, q_le_mn, q_le_nm, q_ac_t, q_ac_f, q_dv_n, q_rm_n, q_ld_n, q_lB_n, q_lJ_n, q_st_n, q_sB_n, q_sJ_n, q_sQ_n, q_cp_n, zN_add, zN_mul, zN_sub, zN_subm, zM_sub, zN_and, va_up_self, va_up_ne, j_add0, j_addt, ne_eq, not_false_eq_true, not_true_eq_false, Nat.reduceAdd, Nat.reduceSub, Nat.reduceMul, Nat.reduceMod, Nat.reduceEqDiff, q_g0_0, q_p0_0, q_g0_1, q_p0_1, q_g0_2, q_p0_2, q_g0_3, q_p0_3, q_g0_4, q_p0_4, q_g0_5, q_p0_5, q_g0_6, q_p0_6, q_g0_7, q_p0_7, q_g1_0, q_p1_0, q_g1_1, q_p1_1, q_g1_2, q_p1_2, q_g1_3, q_p1_3, q_g1_4, q_p1_4, q_g1_5, q_p1_5, q_g1_6, q_p1_6, q_g2_0, q_p2_0, q_g2_1, q_p2_1, q_g2_2, q_p2_2, q_g2_3, q_p2_3, q_g3_0, q_p3_0, q_g3_1, q_p3_1, q_g3_2, q_p3_2, q_g3_3, q_p3_3, q_g3_4, q_p3_4, q_g3_5, q_p3_5, q_g3_6, q_p3_6, q_g4_0, q_p4_0, q_g4_1, q_p4_1, q_g4_2, q_p4_2, q_g4_3, q_p4_3, q_g4_4, q_p4_4, q_g5_0, q_p5_0, q_g5_1, q_p5_1, q_g5_2, q_p5_2, q_g5_3, q_p5_3, q_g5_4, q_p5_4, q_g5_5, q_p5_5, q_g5_6, q_p5_6, q_g5_7, q_p5_7, q_g5_8, q_p5_8, q_g5_9, q_p5_9, q_g5_10, q_p5_10, q_g5_11, q_p5_11, q_g5_12, q_p5_12, q_g5_13, q_p5_13, q_g5_14, q_p5_14, q_g5_15, q_p5_15, a0, a01, a02, a03, r0, vu_up, e1', e2, e3, c2', c3']; rfl), ⟨?_, ?_, ?_, ?_⟩, ?_⟩
  · simp (disch := first | exact cs_0 | exact cs_1 _ | exact cs_2 _ _ | exact cs_3 _ _ _ | exact cs_4 _ _ _ _ | exact j_one_i _ | exact j_one_r _ | exact j_one_n | omega) only [va_up_self, va_up_ne]
    rfl
  · refine ⟨K0, K1, K2, K3, K4, ?_, ?_, ?_, ?_, ?_, ?_, ?_⟩
    · rw [va_up_ne _ _ (by omega), s3 _ (by omega), s2 _ (by omega), e1, va_up_self]
      rfl
    · rw [va_up_ne _ _ (by omega), s3 _ (by omega), s2 _ (by omega), s1 _ (by omega), r1]
    · rw [va_up_ne _ _ (by omega), s3 _ (by omega), s2 _ (by omega), s1 _ (by omega), r2]
    · rw [va_up_ne _ _ (by omega), s3 _ (by omega), s2 _ (by omega), s1 _ (by omega), r3]
    · rw [va_up_ne _ _ (by omega), s3 _ (by omega), s2 _ (by omega), s1 _ (by omega), r4]
    · rw [va_up_ne _ _ (by omega), s3 _ (by omega), s2 _ (by omega), s1 _ (by omega), r5]
    · intro p q1 q2
      have : fresh n 2 = 0 := rfl
      omega
  · exact isShip_fr p2 fun a q1 q2 => by rw [va_up_ne _ _ (by omega), s3 _ (by omega)]
  · exact isShip_fr p3 fun a q1 q2 => by rw [va_up_ne _ _ (by omega)]
  · intro a q
    rw [va_up_ne _ _ (by omega), s3 _ (by omega), s2 _ (by omega), s1 _ (by omega)]
theorem t_fall {b t : Nat} {v : rw_} (hb : isShip M b v t) (hp : v (t + 4) ≤ v t) :
    ∃ M', Rn X (d + 1) 28 0 [some (.ref b), none] [] M h = some (.inl (some (.int (zN (v t - v (t + 4))))), M', h) ∧ isShip M' b (crR v t) t ∧ sm M M' b (b + 3) := by
  obtain ⟨F, G, a1, a2, a3, a4, a5⟩ := hb
  refine ⟨_, by (simp (disch := first | exact cs_0 | exact cs_1 _ | exact cs_2 _ _ | exact cs_3 _ _ _ | exact cs_4 _ _ _ _ | exact j_one_i _ | exact j_one_r _ | exact j_one_n | omega) only [e28_0, e28_1, e28_4, e28_5, e28_8, e28_9, e28_10, e28_11, e28_12, e28_15, e28_18, e28_19, e28_22, e28_23, e28_24, e28_27, e28_28, e28_30, e28_33, e28_34, e28_34r, e28_35, e28_38, e28_39, e28_40, e28_43, e28_44, q_k_v, q_k_n, q_k_x, q_kc_v, q_kc_n, q_kc_x, q_rc, q_eq_t, q_eq_f, q_eq_nm, q_eq_mn, q_eq_mt, q_eq_mf, q_lt_t, q_lt_f, q_lt_mn, q_lt_nm, q_le_t, q_le_f, q_le_mn, q_le_nm, q_ac_t, q_ac_f, q_dv_n, q_rm_n, q_ld_n, q_lB_n, q_lJ_n, q_st_n, q_sB_n, q_sJ_n, q_sQ_n, q_cp_n, zN_add, zN_mul, zN_sub, zN_subm, zM_sub, zN_and, va_up_self, va_up_ne, j_add0, j_addt, ne_eq, not_false_eq_true, not_true_eq_false, Nat.reduceAdd, Nat.reduceSub, Nat.reduceMul, Nat.reduceMod, Nat.reduceEqDiff, q_g0_0, q_p0_0, q_g0_1, q_p0_1, q_g0_2, q_p0_2, q_g0_3, q_p0_3, q_g0_4, q_p0_4, q_g0_5, q_p0_5, q_g0_6, q_p0_6, q_g0_7, q_p0_7, q_g1_0, q_p1_0, q_g1_1, q_p1_1, q_g1_2, q_p1_2, q_g1_3, q_p1_3, q_g1_4, q_p1_4, q_g1_5, q_p1_5, q_g1_6, q_p1_6, q_g2_0, q_p2_0, q_g2_1, q_p2_1, q_g2_2, q_p2_2, q_g2_3, q_p2_3, q_g3_0, q_p3_0, q_g3_1, q_p3_1, q_g3_2, q_p3_2, q_g3_3, q_p3_3, q_g3_4, q_p3_4, q_g3_5, q_p3_5, q_g3_6, q_p3_6, q_g4_0, q_p4_0, q_g4_1, q_p4_1, q_g4_2, q_p4_2, q_g4_3, q_p4_3, q_g4_4, q_p4_4, q_g5_0, q_p5_0, q_g5_1, q_p5_1, q_g5_2, q_p5_2, q_g5_3, q_p5_3, q_g5_4, q_p5_4, q_g5_5, q_p5_5, q_g5_6, q_p5_6, q_g5_7, q_p5_7, q_g5_8, q_p5_8, q_g5_9, q_p5_9, q_g5_10, q_p5_10, q_g5_11, q_p5_11, q_g5_12, q_p5_12, q_g5_13, q_p5_13, q_g5_14, q_p5_14, q_g5_15, q_p5_15, a1, a2, a3]; rfl), ?_, ?_⟩
  · refine ⟨va_cpy G F 0 0 8, G, ?_, ?_, ?_, ?_, ?_⟩
    · simp (disch := first | exact cs_0 | exact cs_1 _ | exact cs_2 _ _ | exact cs_3 _ _ _ | exact cs_4 _ _ _ _ | exact j_one_i _ | exact j_one_r _ | exact j_one_n | omega) only [va_up_self, va_up_ne]
      simp [crR]
    · simp (disch := first | exact cs_0 | exact cs_1 _ | exact cs_2 _ _ | exact cs_3 _ _ _ | exact cs_4 _ _ _ _ | exact j_one_i _ | exact j_one_r _ | exact j_one_n | omega) only [va_up_self, va_up_ne]
    · simp (disch := first | exact cs_0 | exact cs_1 _ | exact cs_2 _ _ | exact cs_3 _ _ _ | exact cs_4 _ _ _ _ | exact j_one_i _ | exact j_one_r _ | exact j_one_n | omega) only [va_up_self, va_up_ne, a3]
    · intro j hj
      rw [cpy_at hj, a5 j hj]
      unfold crR
      rw [if_neg (by omega), if_pos (by omega)]
      congr 2
      omega
    · intro j hj
      rw [a5 j hj]
      unfold crR
      rw [if_neg (by omega), if_neg (by omega), if_neg (by omega)]
  · intro a q
    simp (disch := first | exact cs_0 | exact cs_1 _ | exact cs_2 _ _ | exact cs_3 _ _ _ | exact cs_4 _ _ _ _ | exact j_one_i _ | exact j_one_r _ | exact j_one_n | omega) only [va_up_ne]
theorem t_keep {b t : Nat} {v : rw_} (hb : isShip M b v t) :
    ∃ M', Rn X (d + 1) 27 0 [some (.ref b)] [] M h = some (.inl none, M', h) ∧ isShip M' b (snR v t) t ∧ sm M M' b (b + 3) := by
  obtain ⟨F, G, a1, a2, a3, a4, a5⟩ := hb
  refine ⟨_, by (simp (disch := first | exact cs_0 | exact cs_1 _ | exact cs_2 _ _ | exact cs_3 _ _ _ | exact cs_4 _ _ _ _ | exact j_one_i _ | exact j_one_r _ | exact j_one_n | omega) only [e27_0, e27_1, e27_2, e27_5, e27_8, e27_9, e27_12, e27_13, e27_14, e27_17, e27_18, e27_20, e27_23, q_k_v, q_k_n, q_k_x, q_kc_v, q_kc_n, q_kc_x, q_rc, q_eq_t, q_eq_f, q_eq_nm, q_eq_mn, q_eq_mt, q_eq_mf, q_lt_t, q_lt_f, q_lt_mn, q_lt_nm, q_le_t, q_le_f, q_le_mn, q_le_nm, q_ac_t, q_ac_f, q_dv_n, q_rm_n, q_ld_n, q_lB_n, q_lJ_n, q_st_n, q_sB_n, q_sJ_n, q_sQ_n, q_cp_n, zN_add, zN_mul, zN_sub, zN_subm, zM_sub, zN_and, va_up_self, va_up_ne, j_add0, j_addt, ne_eq, not_false_eq_true, not_true_eq_false, Nat.reduceAdd, Nat.reduceSub, Nat.reduceMul, Nat.reduceMod, Nat.reduceEqDiff, q_g0_0, q_p0_0, q_g0_1, q_p0_1, q_g0_2, q_p0_2, q_g0_3, q_p0_3, q_g0_4, q_p0_4, q_g0_5, q_p0_5, q_g0_6, q_p0_6, q_g0_7, q_p0_7, q_g1_0, q_p1_0, q_g1_1, q_p1_1, q_g1_2, q_p1_2, q_g1_3, q_p1_3, q_g1_4, q_p1_4, q_g1_5, q_p1_5, q_g1_6, q_p1_6, q_g2_0, q_p2_0, q_g2_1, q_p2_1, q_g2_2, q_p2_2, q_g2_3, q_p2_3, q_g3_0, q_p3_0, q_g3_1, q_p3_1, q_g3_2, q_p3_2, q_g3_3, q_p3_3, q_g3_4, q_p3_4, q_g3_5, q_p3_5, q_g3_6, q_p3_6, q_g4_0, q_p4_0, q_g4_1, q_p4_1, q_g4_2, q_p4_2, q_g4_3, q_p4_3, q_g4_4, q_p4_4, q_g5_0, q_p5_0, q_g5_1, q_p5_1, q_g5_2, q_p5_2, q_g5_3, q_p5_3, q_g5_4, q_p5_4, q_g5_5, q_p5_5, q_g5_6, q_p5_6, q_g5_7, q_p5_7, q_g5_8, q_p5_8, q_g5_9, q_p5_9, q_g5_10, q_p5_10, q_g5_11, q_p5_11, q_g5_12, q_p5_12, q_g5_13, q_p5_13, q_g5_14, q_p5_14, q_g5_15, q_p5_15, a1, a2, a3]; rfl), ?_, ?_⟩
  · refine ⟨F, va_cpy F G 0 0 8, ?_, ?_, ?_, ?_, ?_⟩
    · simp (disch := first | exact cs_0 | exact cs_1 _ | exact cs_2 _ _ | exact cs_3 _ _ _ | exact cs_4 _ _ _ _ | exact j_one_i _ | exact j_one_r _ | exact j_one_n | omega) only [va_up_self, va_up_ne]
      simp [snR, show ¬ (t + 13 ≤ t) by omega]
    · simp (disch := first | exact cs_0 | exact cs_1 _ | exact cs_2 _ _ | exact cs_3 _ _ _ | exact cs_4 _ _ _ _ | exact j_one_i _ | exact j_one_r _ | exact j_one_n | omega) only [va_up_self, va_up_ne, a2]
    · simp (disch := first | exact cs_0 | exact cs_1 _ | exact cs_2 _ _ | exact cs_3 _ _ _ | exact cs_4 _ _ _ _ | exact j_one_i _ | exact j_one_r _ | exact j_one_n | omega) only [va_up_self, va_up_ne]
    · intro j hj
      rw [a4 j hj]
      unfold snR
      rw [if_neg (by omega), if_neg (by omega)]
    · intro j hj
      rw [cpy_at hj, a4 j hj]
      unfold snR
      rw [if_neg (by omega), if_pos (by omega)]
      congr 2
      omega
  · intro a q
    simp (disch := first | exact cs_0 | exact cs_1 _ | exact cs_2 _ _ | exact cs_3 _ _ _ | exact cs_4 _ _ _ _ | exact j_one_i _ | exact j_one_r _ | exact j_one_n | omega) only [va_up_ne]
end
