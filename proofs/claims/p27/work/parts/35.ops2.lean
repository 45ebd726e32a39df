/-! the class's states: snapshots and replays -/
theorem rpF_out {v : rw_} {t k : Nat} (ht : 164 ≤ t) (ho : ∀ i, i < k → okO v (v t + i)) : rpF v t k t = v t + k ∧ rpF v t k (t + 2) = v (t + 2) + k ∧ (∀ j, j ≠ t → j ≠ t + 2 → (j < t + 5 ∨ t + 13 ≤ j) → rpF v t k j = v j) ∧ ∀ j, j < 8 → rpF v t k (t + 5 + j) = rqN v t k (t + 5 + j) := by
  obtain ⟨h1, h2⟩ := rqN_out ht k ho
  unfold rpF
  refine ⟨?_, va_up_self _ _ _, fun j q1 q2 q3 => ?_, fun j hj => ?_⟩
  · rw [va_up_ne _ _ (by omega), h1]
  · rw [va_up_ne _ _ q2, h2 j q1 q3]
  · rw [va_up_ne _ _ (by omega)]
theorem rqN_le {v : rw_} {t : Nat} (ht : 164 ≤ t) (hf : ∀ j, j < 8 → v (t + 5 + j) ≤ 999) : ∀ k, (∀ i, i < k → okO v (v t + i)) → ∀ j, j < 8 → rqN v t k (t + 5 + j) ≤ 999 := by
  intro k
  induction k with
  | zero => exact fun _ => hf
  | succ k ih =>
    intro ho j hj
    have h0 := ih fun i hi => ho i (by omega)
    obtain ⟨h1, h2⟩ := rqN_out ht k fun i hi => ho i (by omega)
    obtain ⟨q0, q1, q2, q3, q4, q5, q6⟩ := okO_eq (od_eq (v := v) (v' := rqN v t k) fun j hj => h2 j (by omega) (by omega)) (ho k (by omega))
    show rq1 (rqN v t k) t (t + 5 + j) ≤ 999
    unfold rq1 doO
    rw [va_up_ne _ _ (by omega), h1]
    exact doR_le h0 q1 q2 j hj
theorem could_at {v : rw_} {t B : Nat} (hv : okV v B) (hs : okS v t) : could v t ≤ v 2 - v t ∧ (∀ k, k < could v t → v (t + 1) = 1 ∧ v t + k < v 2 ∧ od v (v t + k) 4 ≠ 3) ∧ (v (t + 1) ≠ 1 ∨ v t + could v t = v 2 ∨ od v (v t + could v t) 4 = 3) := by
  obtain ⟨h1, h2, h3, h4⟩ := stp_k (v := v) (v 2 - v t) (v t)
  have h5 := hs.2.2.1
  unfold could stopF
  by_cases c : v (t + 1) = 1
  · rw [if_pos c]
    refine ⟨by omega, fun k hk => ⟨c, by omega, h3 k hk⟩, ?_⟩
    right
    by_cases c2 : stp v (v 2 - v t) (v t) < v t + (v 2 - v t)
    · right
      rw [show v t + (stp v (v 2 - v t) (v t) - v t) = stp v (v 2 - v t) (v t) by omega]
      exact h4 c2
    · left
      omega
  · rw [if_neg c]
    exact ⟨by omega, fun k hk => by omega, Or.inl c⟩
section
variable {X : jX} {d : Nat} {M : jM} {h : jH}
theorem t_take {b s : Nat} {v : rw_} (hs : s < 2) (hb : isSt M b v) (h1 : v 1 ≤ snR v (164 + 21 * s) 168) (h2 : v 1 ≤ snR v (164 + 21 * s) 189) (l1 : snR v (164 + 21 * s) 168 < 2147483648) (l2 : snR v (164 + 21 * s) 189 < 2147483648) :
    ∃ M', Rn X (d + 3) 42 0 [some (.ref b), some (.ref (b + 7 + 3 * s)), none] [] M h = some (.inl (some (.int (zN (min (snR v (164 + 21 * s) 168) (snR v (164 + 21 * s) 189) - v 1)))), M', h) ∧ isSt M' b (snF v (164 + 21 * s)) ∧ sm M M' b (b + 13) := by
  obtain ⟨M1, e1, r1, s1⟩ := t_keep (X := X) (d := d + 1) (h := j_h0 h) (isSt_sh hb hs)
  obtain ⟨g1, g2⟩ := st_ship hs hb r1 s1 (fun j hj => by unfold snR; rw [if_neg (by omega), if_neg (by omega)])
  obtain ⟨F0, G0, c0, -⟩ := isSt_sh hb hs
  obtain ⟨a0, ⟨K0, K1, K2, K3, K4, b0, b1, b2, b3, b4, b5, b6⟩, a2, a3⟩ := id g1
  obtain ⟨F, G, c2, -⟩ := id a2
  obtain ⟨F', G', c3, -⟩ := id a3
  have w1 : snR v (164 + 21 * s) 1 = v 1 := by unfold snR; rw [if_neg (by omega), if_neg (by omega)]
  have w2 : snR v (164 + 21 * s) 2 = v 2 := by unfold snR; rw [if_neg (by omega), if_neg (by omega)]
  refine ⟨va_up M1 (b + 1) (.inr (0, [.int (zN (snR v (164 + 21 * s) 0)), .int (zN (min (snR v (164 + 21 * s) 168) (snR v (164 + 21 * s) 189))), .int (zN (snR v (164 + 21 * s) 2)), .ref (b + 1 + 1), .ref (b + 1 + 2), .ref (b + 1 + 3), .ref (b + 1 + 4), .ref (b + 1 + 5)])), ?_, ⟨?_, ?_, ?_, ?_⟩, ?_⟩
  · rw [w1] at b0
    by_cases c : snR v (164 + 21 * s) 168 ≤ snR v (164 + 21 * s) 189
    · have em : min (snR v (164 + 21 * s) 168) (snR v (164 + 21 * s) 189) = snR v (164 + 21 * s) 168 := by omega
      rw [em]
      simp (disch := first | exact cs_0 | exact cs_1 _ | exact cs_2 _ _ | exact cs_3 _ _ _ | exact cs_4 _ _ _ _ | exact j_one_i _ | exact j_one_r _ | exact j_one_n | omega) only [e42_0, e42_1, e42_4, e42_5, e42_8, e42_11, e42_12, e42_13, e42_16, e42_17, e42_20, e42_23, e42_26, e42_27, e42_30, e42_33, e42_34, e42_35, e37_0, e37_1, e37_4, e37_7, e37_8, e37_11, e37_14, e37_17, e37_18, e37_21, e37_24, e37_25, e37_28, q_k_v, q_k_n, q_k_x, q_kc_v, q_kc_n, q_kc_x, q_rc, q_eq_t, q_eq_f, q_eq_nm, q_eq_mn, q_eq_mt, q_eq_mf, q_lt_t, q_lt_f, q_lt_mn, q_lt_nm, q_le_t, q_le_f, q_le_mn, q_le_nm, q_ac_t, q_ac_f, q_dv_n, q_rm_n, q_ld_n, q_lB_n, q_lJ_n, q_st_n, q_sB_n, q_sJ_n, q_sQ_n, q_cp_n, zN_add, zN_mul, zN_sub, zN_subm, zM_sub, zN_and, va_up_self, va_up_ne, j_add0, j_addt, ne_eq, not_false_eq_true, not_true_eq_false, Nat.reduceAdd, Nat.reduceSub, Nat.reduceMul, Nat.reduceMod, Nat.reduceEqDiff, q_g0_0, q_p0_0, q_g0_1, q_p0_1, q_g0_2, q_p0_2, q_g0_3, q_p0_3, q_g0_4, q_p0_4, q_g0_5, q_p0_5, q_g0_6, q_p0_6, q_g0_7, q_p0_7, q_g1_0, q_p1_0, q_g1_1, q_p1_1, q_g1_2, q_p1_2, q_g1_3, q_p1_3, q_g1_4, q_p1_4, q_g1_5, q_p1_5, q_g1_6, q_p1_6, q_g2_0, q_p2_0, q_g2_1, q_p2_1, q_g2_2, q_p2_2, q_g2_3, q_p2_3, q_g3_0, q_p3_0, q_g3_1, q_p3_1, q_g3_2, q_p3_2, q_g3_3, q_p3_3, q_g3_4, q_p3_4, q_g3_5, q_p3_5, q_g3_6, q_p3_6, q_g4_0, q_p4_0, q_g4_1, q_p4_1, q_g4_2, q_p4_2, q_g4_3, q_p4_3, q_g4_4, q_p4_4, q_g5_0, q_p5_0, q_g5_1, q_p5_1, q_g5_2, q_p5_2, q_g5_3, q_p5_3, q_g5_4, q_p5_4, q_g5_5, q_p5_5, q_g5_6, q_p5_6, q_g5_7, q_p5_7, q_g5_8, q_p5_8, q_g5_9, q_p5_9, q_g5_10, q_p5_10, q_g5_11, q_p5_11, q_g5_12, q_p5_12, q_g5_13, q_p5_13, q_g5_14, q_p5_14, q_g5_15, q_p5_15, c0, e1, a0, b0, c2, c3]
    · have em : min (snR v (164 + 21 * s) 168) (snR v (164 + 21 * s) 189) = snR v (164 + 21 * s) 189 := by omega
      rw [em]
      simp (disch := first | exact cs_0 | exact cs_1 _ | exact cs_2 _ _ | exact cs_3 _ _ _ | exact cs_4 _ _ _ _ | exact j_one_i _ | exact j_one_r _ | exact j_one_n | omega) only [e42_0, e42_1, e42_4, e42_5, e42_8, e42_11, e42_12, e42_13, e42_16, e42_17, e42_20, e42_23, e42_26, e42_27, e42_30, e42_33, e42_34, e42_35, e37_0, e37_1, e37_4, e37_7, e37_8, e37_11, e37_14, e37_17, e37_18, e37_21, e37_24, e37_25, e37_28, q_k_v, q_k_n, q_k_x, q_kc_v, q_kc_n, q_kc_x, q_rc, q_eq_t, q_eq_f, q_eq_nm, q_eq_mn, q_eq_mt, q_eq_mf, q_lt_t, q_lt_f, q_lt_mn, q_lt_nm, q_le_t, q_le_f, q_le_mn, q_le_nm, q_ac_t, q_ac_f, q_dv_n, q_rm_n, q_ld_n, q_lB_n, q_lJ_n, q_st_n, q_sB_n, q_sJ_n, q_sQ_n, q_cp_n, zN_add, zN_mul, zN_sub, zN_subm, zM_sub, zN_and, va_up_self, va_up_ne, j_add0, j_addt, ne_eq, not_false_eq_true, not_true_eq_false, Nat.reduceAdd, Nat.reduceSub, Nat.reduceMul, Nat.reduceMod, Nat.reduceEqDiff, q_g0_0, q_p0_0, q_g0_1, q_p0_1, q_g0_2, q_p0_2, q_g0_3, q_p0_3, q_g0_4, q_p0_4, q_g0_5, q_p0_5, q_g0_6, q_p0_6, q_g0_7, q_p0_7, q_g1_0, q_p1_0, q_g1_1, q_p1_1, q_g1_2, q_p1_2, q_g1_3, q_p1_3, q_g1_4, q_p1_4, q_g1_5, q_p1_5, q_g1_6, q_p1_6, q_g2_0, q_p2_0, q_g2_1, q_p2_1, q_g2_2, q_p2_2, q_g2_3, q_p2_3, q_g3_0, q_p3_0, q_g3_1, q_p3_1, q_g3_2, q_p3_2, q_g3_3, q_p3_3, q_g3_4, q_p3_4, q_g3_5, q_p3_5, q_g3_6, q_p3_6, q_g4_0, q_p4_0, q_g4_1, q_p4_1, q_g4_2, q_p4_2, q_g4_3, q_p4_3, q_g4_4, q_p4_4, q_g5_0, q_p5_0, q_g5_1, q_p5_1, q_g5_2, q_p5_2, q_g5_3, q_p5_3, q_g5_4, q_p5_4, q_g5_5, q_p5_5, q_g5_6, q_p5_6, q_g5_7, q_p5_7, q_g5_8, q_p5_8, q_g5_9, q_p5_9, q_g5_10, q_p5_10, q_g5_11, q_p5_11, q_g5_12, q_p5_12, q_g5_13, q_p5_13, q_g5_14, q_p5_14, q_g5_15, q_p5_15, c0, e1, a0, b0, c2, c3]
  · rw [va_up_ne _ _ (by omega), a0]
    unfold snF
    rw [va_up_ne _ _ (by omega)]
  · refine ⟨K0, K1, K2, K3, K4, ?_, ?_, ?_, ?_, ?_, ?_, ?_⟩
    · rw [va_up_self]
      unfold snF
      rw [va_up_self, va_up_ne _ _ (by omega), va_up_ne _ _ (by omega)]
    · rw [va_up_ne _ _ (by omega), b1]
    · rw [va_up_ne _ _ (by omega), b2]
    · rw [va_up_ne _ _ (by omega), b3]
    · rw [va_up_ne _ _ (by omega), b4]
    · rw [va_up_ne _ _ (by omega), b5]
    · intro p q1 q2
      unfold snF at q1 q2
      rw [va_up_self] at q1
      rw [va_up_ne _ _ (by omega)] at q2
      have := b6 p (by omega) q2
      unfold snF od
      rw [va_up_ne _ _ (by omega), va_up_ne _ _ (by omega), va_up_ne _ _ (by omega), va_up_ne _ _ (by omega), va_up_ne _ _ (by omega)]
      exact this
  · exact isShip_v (isShip_fr a2 fun a q1 q2 => va_up_ne _ _ (by omega)) fun j hj => va_up_ne _ _ (by omega)
  · exact isShip_v (isShip_fr a3 fun a q1 q2 => va_up_ne _ _ (by omega)) fun j hj => va_up_ne _ _ (by omega)
  · exact sm_up g2 (by omega)
theorem t_rp {b s most B : Nat} {v : rw_} (hs : s < 2) (hv : okV v B) (hB : B < 1000000000) (hm : most < 1000) :
    ∀ n k M, k + n = most → k ≤ could v (164 + 21 * s) → isSt M b (rpF v (164 + 21 * s) k) → ∃ M', Rn X (d + 5) 40 2 [some (.ref b), some (.ref (b + 7 + 3 * s)), some (.int (zN most)), some (.int (zN k))] [] M h = some (.inl (some (.int (zN (min most (could v (164 + 21 * s)))))), M', h) ∧ isSt M' b (rpF v (164 + 21 * s) (min most (could v (164 + 21 * s)))) ∧ sm M M' b (b + 13) := by
  have hS := okV_s hv hs
  have ht : 164 ≤ 164 + 21 * s := by omega
  obtain ⟨t, et⟩ : ∃ t, t = 164 + 21 * s := ⟨_, rfl⟩
  rw [← et] at hS ht ⊢
  obtain ⟨m1, m2, m3⟩ := could_at hv hS
  obtain ⟨v0, v0', v1, v2, v3, v4, v5, v6⟩ := id hv
  obtain ⟨u1, u2, u3, u4, u5, u6⟩ := id hS
  intro n
  induction n with
  | zero =>
    intro k M hk hc hb
    have e : min most (could v t) = most := by omega
    have ek : k = most := by omega
    subst ek
    rw [e]
    exact ⟨M, by simp (disch := first | exact cs_0 | exact cs_1 _ | exact cs_2 _ _ | exact cs_3 _ _ _ | exact cs_4 _ _ _ _ | exact j_one_i _ | exact j_one_r _ | exact j_one_n | omega) only [e40_0, e40_1, e40_2, e40_3, e40_4, e40_7, e40_8, e40_9, e40_12, e40_15, e40_16, e40_17, e40_18, e40_21, e40_22, e40_25, e40_26, e40_29, e40_32, e40_33, e40_33r, e40_34, e40_37, e40_38, e40_39, e40_42, e40_43, e40_43r, e40_44, e40_47, e40_48, e40_49, e40_52, e40_55, e40_58, e40_59, q_k_v, q_k_n, q_k_x, q_kc_v, q_kc_n, q_kc_x, q_rc, q_eq_t, q_eq_f, q_eq_nm, q_eq_mn, q_eq_mt, q_eq_mf, q_lt_t, q_lt_f, q_lt_mn, q_lt_nm, q_le_t, q_le_f, q_le_mn, q_le_nm, q_ac_t, q_ac_f, q_dv_n, q_rm_n, q_ld_n, q_lB_n, q_lJ_n, q_st_n, q_sB_n, q_sJ_n, q_sQ_n, q_cp_n, zN_add, zN_mul, zN_sub, zN_subm, zM_sub, zN_and, va_up_self, va_up_ne, j_add0, j_addt, ne_eq, not_false_eq_true, not_true_eq_false, Nat.reduceAdd, Nat.reduceSub, Nat.reduceMul, Nat.reduceMod, Nat.reduceEqDiff, q_g0_0, q_p0_0, q_g0_1, q_p0_1, q_g0_2, q_p0_2, q_g0_3, q_p0_3, q_g0_4, q_p0_4, q_g0_5, q_p0_5, q_g0_6, q_p0_6, q_g0_7, q_p0_7, q_g1_0, q_p1_0, q_g1_1, q_p1_1, q_g1_2, q_p1_2, q_g1_3, q_p1_3, q_g1_4, q_p1_4, q_g1_5, q_p1_5, q_g1_6, q_p1_6, q_g2_0, q_p2_0, q_g2_1, q_p2_1, q_g2_2, q_p2_2, q_g2_3, q_p2_3, q_g3_0, q_p3_0, q_g3_1, q_p3_1, q_g3_2, q_p3_2, q_g3_3, q_p3_3, q_g3_4, q_p3_4, q_g3_5, q_p3_5, q_g3_6, q_p3_6, q_g4_0, q_p4_0, q_g4_1, q_p4_1, q_g4_2, q_p4_2, q_g4_3, q_p4_3, q_g4_4, q_p4_4, q_g5_0, q_p5_0, q_g5_1, q_p5_1, q_g5_2, q_p5_2, q_g5_3, q_p5_3, q_g5_4, q_p5_4, q_g5_5, q_p5_5, q_g5_6, q_p5_6, q_g5_7, q_p5_7, q_g5_8, q_p5_8, q_g5_9, q_p5_9, q_g5_10, q_p5_10, q_g5_11, q_p5_11, q_g5_12, q_p5_12, q_g5_13, q_p5_13, q_g5_14, q_p5_14, q_g5_15, q_p5_15], hb, sm_rfl⟩
  | succ n ih =>
    intro k M hk hc hb
    have ho : ∀ i, i < k → okO v (v t + i) := fun i hi => v4 _ (by omega) (by have := (m2 i (by omega)).2.1; omega)
    obtain ⟨w1, w2, w3, w4⟩ := rpF_out ht ho
    have x1 : rpF v t k 1 = v 1 := w3 1 (by omega) (by omega) (by omega)
    have x2 : rpF v t k 2 = v 2 := w3 2 (by omega) (by omega) (by omega)
    have x3 : rpF v t k (t + 1) = v (t + 1) := w3 _ (by omega) (by omega) (by omega)
    have hb' := hb
    obtain ⟨a0, ⟨K0, K1, K2, K3, K4, b0, b1, b2, b3, b4, b5, b6⟩, -⟩ := hb'
    have hsh := isSt_sh hb hs
    rw [← et] at hsh
    obtain ⟨F, G, c1, c2, c3, c4, c5⟩ := hsh
    rw [x1, x2] at b0
    rw [x1, x2] at b6
    rw [w1, w2, x3] at c1
    have q : ∀ p w, w < 5 → od (rpF v t k) p w = od v p w := fun p w hw => od_eq (fun j hj => w3 j (by omega) (by omega) (by omega)) p hw
    rw [e40_2]
    by_cases c : k = could v t
    · have e : min most (could v t) = k := by omega
      refine ⟨M, ?_, by rw [e]; exact hb, sm_rfl⟩
      rw [e]
      by_cases cu : v (t + 1) = 1
      · by_cases cn : v t + k = v 2
        · simp (disch := first | exact cs_0 | exact cs_1 _ | exact cs_2 _ _ | exact cs_3 _ _ _ | exact cs_4 _ _ _ _ | exact j_one_i _ | exact j_one_r _ | exact j_one_n | omega) only [e40_0, e40_1, e40_3, e40_4, e40_7, e40_8, e40_9, e40_12, e40_15, e40_16, e40_17, e40_18, e40_21, e40_22, e40_25, e40_26, e40_29, e40_32, e40_33, e40_33r, e40_34, e40_37, e40_38, e40_39, e40_42, e40_43, e40_43r, e40_44, e40_47, e40_48, e40_49, e40_52, e40_55, e40_58, e40_59, e41_0, e41_1, e41_4, e41_7, e41_8, e41_11, e41_12, e41_15, e41_18, e41_21, e41_22, e41_25, e41_26, e41_29, e41_32, e41_35, e41_36, e41_39, e41_40, e6_0, e6_1, e6_2, e6_5, e6_8, e6_9, e6_10, e6_13, e6_16, e6_17, e6_20, e6_21, e13_0, e13_1, e13_2, e13_5, e13_6, e13_9, e13_10, e13_13, e13_14, e12_0, e12_1, e12_4, e12_5, e12_8, e12_9, e1_0, e1_1, e1_3, e1_4, q_k_v, q_k_n, q_k_x, q_kc_v, q_kc_n, q_kc_x, q_rc, q_eq_t, q_eq_f, q_eq_nm, q_eq_mn, q_eq_mt, q_eq_mf, q_lt_t, q_lt_f, q_lt_mn, q_lt_nm, q_le_t, q_le_f, q_le_mn, q_le_nm, q_ac_t, q_ac_f, q_dv_n, q_rm_n, q_ld_n, q_lB_n, q_lJ_n, q_st_n, q_sB_n, q_sJ_n, q_sQ_n, q_cp_n, zN_add, zN_mul, zN_sub, zN_subm, zM_sub, zN_and, va_up_self, va_up_ne, j_add0, j_addt, ne_eq, not_false_eq_true, not_true_eq_false, Nat.reduceAdd, Nat.reduceSub, Nat.reduceMul, Nat.reduceMod, Nat.reduceEqDiff, q_g0_0, q_p0_0, q_g0_1, q_p0_1, q_g0_2, q_p0_2, q_g0_3, q_p0_3, q_g0_4, q_p0_4, q_g0_5, q_p0_5, q_g0_6, q_p0_6, q_g0_7, q_p0_7, q_g1_0, q_p1_0, q_g1_1, q_p1_1, q_g1_2, q_p1_2, q_g1_3, q_p1_3, q_g1_4, q_p1_4, q_g1_5, q_p1_5, q_g1_6, q_p1_6, q_g2_0, q_p2_0, q_g2_1, q_p2_1, q_g2_2, q_p2_2, q_g2_3, q_p2_3, q_g3_0, q_p3_0, q_g3_1, q_p3_1, q_g3_2, q_p3_2, q_g3_3, q_p3_3, q_g3_4, q_p3_4, q_g3_5, q_p3_5, q_g3_6, q_p3_6, q_g4_0, q_p4_0, q_g4_1, q_p4_1, q_g4_2, q_p4_2, q_g4_3, q_p4_3, q_g4_4, q_p4_4, q_g5_0, q_p5_0, q_g5_1, q_p5_1, q_g5_2, q_p5_2, q_g5_3, q_p5_3, q_g5_4, q_p5_4, q_g5_5, q_p5_5, q_g5_6, q_p5_6, q_g5_7, q_p5_7, q_g5_8, q_p5_8, q_g5_9, q_p5_9, q_g5_10, q_p5_10, q_g5_11, q_p5_11, q_g5_12, q_p5_12, q_g5_13, q_p5_13, q_g5_14, q_p5_14, q_g5_15, q_p5_15, a0, b0, b5, c1, cu, cn]
        · have e3 : od v (v t + k) 4 = 3 := by
            rcases m3 with m3 | m3 | m3
            · exact absurd cu m3
            · omega
            · rw [c]; exact m3
          have e4 := (b6 (v t + k) (by omega) (by omega)).2.2.2.2
          rw [q _ _ (by omega), e3] at e4
          simp (disch := first | exact cs_0 | exact cs_1 _ | exact cs_2 _ _ | exact cs_3 _ _ _ | exact cs_4 _ _ _ _ | exact j_one_i _ | exact j_one_r _ | exact j_one_n | omega) only [e40_0, e40_1, e40_3, e40_4, e40_7, e40_8, e40_9, e40_12, e40_15, e40_16, e40_17, e40_18, e40_21, e40_22, e40_25, e40_26, e40_29, e40_32, e40_33, e40_33r, e40_34, e40_37, e40_38, e40_39, e40_42, e40_43, e40_43r, e40_44, e40_47, e40_48, e40_49, e40_52, e40_55, e40_58, e40_59, e41_0, e41_1, e41_4, e41_7, e41_8, e41_11, e41_12, e41_15, e41_18, e41_21, e41_22, e41_25, e41_26, e41_29, e41_32, e41_35, e41_36, e41_39, e41_40, e6_0, e6_1, e6_2, e6_5, e6_8, e6_9, e6_10, e6_13, e6_16, e6_17, e6_20, e6_21, e13_0, e13_1, e13_2, e13_5, e13_6, e13_9, e13_10, e13_13, e13_14, e12_0, e12_1, e12_4, e12_5, e12_8, e12_9, e1_0, e1_1, e1_3, e1_4, q_k_v, q_k_n, q_k_x, q_kc_v, q_kc_n, q_kc_x, q_rc, q_eq_t, q_eq_f, q_eq_nm, q_eq_mn, q_eq_mt, q_eq_mf, q_lt_t, q_lt_f, q_lt_mn, q_lt_nm, q_le_t, q_le_f, q_le_mn, q_le_nm, q_ac_t, q_ac_f, q_dv_n, q_rm_n, q_ld_n, q_lB_n, q_lJ_n, q_st_n, q_sB_n, q_sJ_n, q_sQ_n, q_cp_n, zN_add, zN_mul, zN_sub, zN_subm, zM_sub, zN_and, va_up_self, va_up_ne, j_add0, j_addt, ne_eq, not_false_eq_true, not_true_eq_false, Nat.reduceAdd, Nat.reduceSub, Nat.reduceMul, Nat.reduceMod, Nat.reduceEqDiff, q_g0_0, q_p0_0, q_g0_1, q_p0_1, q_g0_2, q_p0_2, q_g0_3, q_p0_3, q_g0_4, q_p0_4, q_g0_5, q_p0_5, q_g0_6, q_p0_6, q_g0_7, q_p0_7, q_g1_0, q_p1_0, q_g1_1, q_p1_1, q_g1_2, q_p1_2, q_g1_3, q_p1_3, q_g1_4, q_p1_4, q_g1_5, q_p1_5, q_g1_6, q_p1_6, q_g2_0, q_p2_0, q_g2_1, q_p2_1, q_g2_2, q_p2_2, q_g2_3, q_p2_3, q_g3_0, q_p3_0, q_g3_1, q_p3_1, q_g3_2, q_p3_2, q_g3_3, q_p3_3, q_g3_4, q_p3_4, q_g3_5, q_p3_5, q_g3_6, q_p3_6, q_g4_0, q_p4_0, q_g4_1, q_p4_1, q_g4_2, q_p4_2, q_g4_3, q_p4_3, q_g4_4, q_p4_4, q_g5_0, q_p5_0, q_g5_1, q_p5_1, q_g5_2, q_p5_2, q_g5_3, q_p5_3, q_g5_4, q_p5_4, q_g5_5, q_p5_5, q_g5_6, q_p5_6, q_g5_7, q_p5_7, q_g5_8, q_p5_8, q_g5_9, q_p5_9, q_g5_10, q_p5_10, q_g5_11, q_p5_11, q_g5_12, q_p5_12, q_g5_13, q_p5_13, q_g5_14, q_p5_14, q_g5_15, q_p5_15, a0, b0, b5, c1, cu, e4]
      · have cu0 : v (t + 1) = 0 := by omega
        simp (disch := first | exact cs_0 | exact cs_1 _ | exact cs_2 _ _ | exact cs_3 _ _ _ | exact cs_4 _ _ _ _ | exact j_one_i _ | exact j_one_r _ | exact j_one_n | omega) only [e40_0, e40_1, e40_3, e40_4, e40_7, e40_8, e40_9, e40_12, e40_15, e40_16, e40_17, e40_18, e40_21, e40_22, e40_25, e40_26, e40_29, e40_32, e40_33, e40_33r, e40_34, e40_37, e40_38, e40_39, e40_42, e40_43, e40_43r, e40_44, e40_47, e40_48, e40_49, e40_52, e40_55, e40_58, e40_59, e41_0, e41_1, e41_4, e41_7, e41_8, e41_11, e41_12, e41_15, e41_18, e41_21, e41_22, e41_25, e41_26, e41_29, e41_32, e41_35, e41_36, e41_39, e41_40, e6_0, e6_1, e6_2, e6_5, e6_8, e6_9, e6_10, e6_13, e6_16, e6_17, e6_20, e6_21, e13_0, e13_1, e13_2, e13_5, e13_6, e13_9, e13_10, e13_13, e13_14, e12_0, e12_1, e12_4, e12_5, e12_8, e12_9, e1_0, e1_1, e1_3, e1_4, q_k_v, q_k_n, q_k_x, q_kc_v, q_kc_n, q_kc_x, q_rc, q_eq_t, q_eq_f, q_eq_nm, q_eq_mn, q_eq_mt, q_eq_mf, q_lt_t, q_lt_f, q_lt_mn, q_lt_nm, q_le_t, q_le_f, q_le_mn, q_le_nm, q_ac_t, q_ac_f, q_dv_n, q_rm_n, q_ld_n, q_lB_n, q_lJ_n, q_st_n, q_sB_n, q_sJ_n, q_sQ_n, q_cp_n, zN_add, zN_mul, zN_sub, zN_subm, zM_sub, zN_and, va_up_self, va_up_ne, j_add0, j_addt, ne_eq, not_false_eq_true, not_true_eq_false, Nat.reduceAdd, Nat.reduceSub, Nat.reduceMul, Nat.reduceMod, Nat.reduceEqDiff, q_g0_0, q_p0_0, q_g0_1, q_p0_1, q_g0_2, q_p0_2, q_g0_3, q_p0_3, q_g0_4, q_p0_4, q_g0_5, q_p0_5, q_g0_6, q_p0_6, q_g0_7, q_p0_7, q_g1_0, q_p1_0, q_g1_1, q_p1_1, q_g1_2, q_p1_2, q_g1_3, q_p1_3, q_g1_4, q_p1_4, q_g1_5, q_p1_5, q_g1_6, q_p1_6, q_g2_0, q_p2_0, q_g2_1, q_p2_1, q_g2_2, q_p2_2, q_g2_3, q_p2_3, q_g3_0, q_p3_0, q_g3_1, q_p3_1, q_g3_2, q_p3_2, q_g3_3, q_p3_3, q_g3_4, q_p3_4, q_g3_5, q_p3_5, q_g3_6, q_p3_6, q_g4_0, q_p4_0, q_g4_1, q_p4_1, q_g4_2, q_p4_2, q_g4_3, q_p4_3, q_g4_4, q_p4_4, q_g5_0, q_p5_0, q_g5_1, q_p5_1, q_g5_2, q_p5_2, q_g5_3, q_p5_3, q_g5_4, q_p5_4, q_g5_5, q_p5_5, q_g5_6, q_p5_6, q_g5_7, q_p5_7, q_g5_8, q_p5_8, q_g5_9, q_p5_9, q_g5_10, q_p5_10, q_g5_11, q_p5_11, q_g5_12, q_p5_12, q_g5_13, q_p5_13, q_g5_14, q_p5_14, q_g5_15, q_p5_15, a0, b0, b5, c1, cu0]
    · obtain ⟨y1, y2, y3⟩ := m2 k (by omega)
      have hok := v4 (v t + k) (by omega) y2
      obtain ⟨o0, o1, o2, o3, o4, o5, o6⟩ := hok
      obtain ⟨k0, k1, k2, k3, k4⟩ := b6 (v t + k) (by omega) y2
      rw [q _ _ (by omega)] at k0 k1 k2 k3 k4
      have hle := rqN_le ht u5 k ho
      obtain ⟨F1, e1, e2⟩ := t_replayOne (X := X) (d := d + 1) (h := j_h0 h) (M := M) (f := fun j => rqN v t k (t + 5 + j)) (F := F) b0 b1 b2 b3 b4 c2 k0 k1 k2 k3 (fun j hj => by rw [c4 j hj, w4 j hj]) o1 o2 o4 o0 o5 hle (by omega)
      obtain ⟨M2, hM2⟩ : ∃ M2, M2 = va_up (va_up M (b + 7 + 3 * s + 1) (.inl (0, 8, .inl F1))) (b + 7 + 3 * s) (.inr (1, [.int (zN (v t + k + 1)), .int (zN (rpF v t k (t + 4))), .int (zN (v (t + 1))), .int (zN (v (t + 2) + k + 1)), .int (zN (rpF v t k (t + 3))), .ref (b + 7 + 3 * s + 1), .ref (b + 7 + 3 * s + 2)])) := ⟨_, rfl⟩
      have ho' : ∀ i, i < k + 1 → okO v (v t + i) := fun i hi => v4 _ (by omega) (by have := (m2 i (by omega)).2.1; omega)
      obtain ⟨z1, z2, z3, z4⟩ := rpF_out ht ho'
      have g1 : isShip M2 (b + 7 + 3 * s) (rpF v t (k + 1)) t := by
        refine ⟨F1, G, ?_, ?_, ?_, ?_, ?_⟩
        · rw [hM2, va_up_self, z1, z2, z3 (t + 4) (by omega) (by omega) (by omega), z3 (t + 1) (by omega) (by omega) (by omega), z3 (t + 3) (by omega) (by omega) (by omega), w3 (t + 4) (by omega) (by omega) (by omega), w3 (t + 3) (by omega) (by omega) (by omega)]
          rfl
        · rw [hM2, va_up_ne _ _ (by omega), va_up_self]
        · rw [hM2, va_up_ne _ _ (by omega), va_up_ne _ _ (by omega), c3]
        · intro j hj
          rw [e2 j hj, z4 j hj]
          show zN (doR (fun j => rqN v t k (t + 5 + j)) 0 (od v (v t + k) 0) (od v (v t + k) 1) (od v (v t + k) 2) (od v (v t + k) 3) j) = zN (rq1 (rqN v t k) t (t + 5 + j))
          rw [doR_sh (w := rqN v t k) (t := t + 5) o1 o2 (fun j hj => rfl) j hj]
          unfold rq1
          rw [va_up_ne _ _ (by omega), (rqN_out ht k ho).1]
          rw [doO_od (v := v) (v' := rqN v t k) fun w hw => od_eq (fun j hj => (rqN_out ht k ho).2 j (by omega) (by omega)) _ hw]
          rfl
        · intro j hj
          rw [c5 j hj, z3 _ (by omega) (by omega) (by omega), w3 _ (by omega) (by omega) (by omega)]
      have g2 : sm M M2 (b + 7 + 3 * s) (b + 7 + 3 * s + 3) := fun a q => by rw [hM2, va_up_ne _ _ (by omega), va_up_ne _ _ (by omega)]
      have g3 := st_ship (M' := M2) (v' := rpF v t (k + 1)) hs hb (by rw [← et]; exact g1) g2 (fun j hj => by rw [z3 _ (by omega) (by omega) (by omega), w3 _ (by omega) (by omega) (by omega)])
      obtain ⟨M3, f1, f2, f3⟩ := ih (k + 1) M2 (by omega) (by omega) g3.1
      refine ⟨M3, ?_, f2, sm_trans g3.2 f3⟩
      have hM2' := hM2.symm
      simp (disch := first | exact cs_0 | exact cs_1 _ | exact cs_2 _ _ | exact cs_3 _ _ _ | exact cs_4 _ _ _ _ | exact j_one_i _ | exact j_one_r _ | exact j_one_n | omega) only [e40_0, e40_1, e40_3, e40_4, e40_7, e40_8, e40_9, e40_12, e40_15, e40_16, e40_17, e40_18, e40_21, e40_22, e40_25, e40_26, e40_29, e40_32, e40_33, e40_33r, e40_34, e40_37, e40_38, e40_39, e40_42, e40_43, e40_43r, e40_44, e40_47, e40_48, e40_49, e40_52, e40_55, e40_58, e40_59, e41_0, e41_1, e41_4, e41_7, e41_8, e41_11, e41_12, e41_15, e41_18, e41_21, e41_22, e41_25, e41_26, e41_29, e41_32, e41_35, e41_36, e41_39, e41_40, e6_0, e6_1, e6_2, e6_5, e6_8, e6_9, e6_10, e6_13, e6_16, e6_17, e6_20, e6_21, e13_0, e13_1, e13_2, e13_5, e13_6, e13_9, e13_10, e13_13, e13_14, e12_0, e12_1, e12_4, e12_5, e12_8, e12_9, e1_0, e1_1, e1_3, e1_4, q_k_v, q_k_n, q_k_x, q_kc_v, q_kc_n, q_kc_x, q_rc, q_eq_t, q_eq_f, q_eq_nm, q_eq_mn, q_eq_mt, q_eq_mf, q_lt_t, q_lt_f, q_lt_mn, q_lt_nm, q_le_t, q_le_f, q_le_mn, q_le_nm, q_ac_t, q_ac_f, q_dv_n, q_rm_n, q_ld_n, q_lB_n, q_lJ_n, q_st_n, q_sB_n, q_sJ_n, q_sQ_n, q_cp_n, zN_add, zN_mul, zN_sub, zN_subm, zM_sub, zN_and, va_up_self, va_up_ne, j_add0, j_addt, ne_eq, not_false_eq_true, not_true_eq_false, Nat.reduceAdd, Nat.reduceSub, Nat.reduceMul, Nat.reduceMod, Nat.reduceEqDiff, q_g0_0, q_p0_0, q_g0_1, q_p0_1, q_g0_2, q_p0_2, q_g0_3, q_p0_3, q_g0_4, q_p0_4, q_g0_5, q_p0_5, q_g0_6, q_p0_6, q_g0_7, q_p0_7, q_g1_0, q_p1_0, q_g1_1, q_p1_1, q_g1_2, q_p1_2, q_g1_3, q_p1_3, q_g1_4, q_p1_4, q_g1_5, q_p1_5, q_g1_6, q_p1_6, q_g2_0, q_p2_0, q_g2_1, q_p2_1, q_g2_2, q_p2_2, q_g2_3, q_p2_3, q_g3_0, q_p3_0, q_g3_1, q_p3_1, q_g3_2, q_p3_2, q_g3_3, q_p3_3, q_g3_4, q_p3_4, q_g3_5, q_p3_5, q_g3_6, q_p3_6, q_g4_0, q_p4_0, q_g4_1, q_p4_1, q_g4_2, q_p4_2, q_g4_3, q_p4_3, q_g4_4, q_p4_4, q_g5_0, q_p5_0, q_g5_1, q_p5_1, q_g5_2, q_p5_2, q_g5_3, q_p5_3, q_g5_4, q_p5_4, q_g5_5, q_p5_5, q_g5_6, q_p5_6, q_g5_7, q_p5_7, q_g5_8, q_p5_8, q_g5_9, q_p5_9, q_g5_10, q_p5_10, q_g5_11, q_p5_11, q_g5_12, q_p5_12, q_g5_13, q_p5_13, q_g5_14, q_p5_14, q_g5_15, q_p5_15, a0, b0, b5, c1, y1, k4, e1, vu_up] at hM2' ⊢
      rw [hM2']
      exact f1
end
