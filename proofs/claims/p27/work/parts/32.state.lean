/-! the class's ships and states -/
theorem isShip_fr {M M' : jM} {b t : Nat} {v : rw_} (hs : isShip M b v t) (hm : ∀ a, b ≤ a → a < b + 3 → M' a = M a) : isShip M' b v t := by
  obtain ⟨F, G, a1, a2, a3, a4, a5⟩ := hs
  exact ⟨F, G, by rw [hm _ (by omega) (by omega), a1], by rw [hm _ (by omega) (by omega), a2], by rw [hm _ (by omega) (by omega), a3], a4, a5⟩
theorem isShip_v {M : jM} {b t : Nat} {v v' : rw_} (hs : isShip M b v t) (hv : ∀ j, j < 21 → v' (t + j) = v (t + j)) : isShip M b v' t := by
  obtain ⟨F, G, a1, a2, a3, a4, a5⟩ := hs
  have h0 := hv 0 (by omega)
  rw [Nat.add_zero] at h0
  refine ⟨F, G, ?_, a2, a3, ?_, ?_⟩
  · rw [h0, hv 1 (by omega), hv 2 (by omega), hv 3 (by omega), hv 4 (by omega)]
    exact a1
  · intro j hj
    rw [Nat.add_assoc, hv (5 + j) (by omega), ← Nat.add_assoc]
    exact a4 j hj
  · intro j hj
    rw [Nat.add_assoc, hv (13 + j) (by omega), ← Nat.add_assoc]
    exact a5 j hj
theorem isRing_fr {M M' : jM} {b : Nat} {v : rw_} (hs : isRing M b v) (hm : ∀ a, b ≤ a → a < b + 6 → M' a = M a) : isRing M' b v := by
  obtain ⟨K0, K1, K2, K3, K4, a0, a1, a2, a3, a4, a5, a6⟩ := hs
  exact ⟨K0, K1, K2, K3, K4, by rw [hm _ (by omega) (by omega), a0], by rw [hm _ (by omega) (by omega), a1], by rw [hm _ (by omega) (by omega), a2], by rw [hm _ (by omega) (by omega), a3], by rw [hm _ (by omega) (by omega), a4], by rw [hm _ (by omega) (by omega), a5], a6⟩
theorem isRing_v {M : jM} {b : Nat} {v v' : rw_} (hs : isRing M b v) (h0 : v' 0 = v 0) (h1 : v' 1 = v 1) (h2 : v' 2 = v 2) (hv : ∀ p w, w < 5 → od v' p w = od v p w) : isRing M b v' := by
  obtain ⟨K0, K1, K2, K3, K4, a0, a1, a2, a3, a4, a5, a6⟩ := hs
  refine ⟨K0, K1, K2, K3, K4, by rw [h0, h1, h2, a0], a1, a2, a3, a4, a5, ?_⟩
  intro p q1 q2
  rw [h1] at q1
  rw [h2] at q2
  rw [hv p 0 (by omega), hv p 1 (by omega), hv p 2 (by omega), hv p 3 (by omega), hv p 4 (by omega)]
  exact a6 p q1 q2
theorem isSt_fr {M M' : jM} {b : Nat} {v : rw_} (hs : isSt M b v) (hm : ∀ a, b ≤ a → a < b + 13 → M' a = M a) : isSt M' b v :=
  ⟨by rw [hm _ (by omega) (by omega), hs.1], isRing_fr hs.2.1 fun a q1 q2 => hm a (by omega) (by omega), isShip_fr hs.2.2.1 fun a q1 q2 => hm a (by omega) (by omega), isShip_fr hs.2.2.2 fun a q1 q2 => hm a (by omega) (by omega)⟩
theorem sm_trans {M M' M'' : jM} {b c : Nat} (h1 : sm M M' b c) (h2 : sm M' M'' b c) : sm M M'' b c := fun a q => (h2 a q).trans (h1 a q)
theorem sm_up {M M' : jM} {b c a : Nat} {e : va_E} (h1 : sm M M' b c) (ha : b ≤ a ∧ a < c) : sm M (va_up M' a e) b c := fun x q => by
  rw [va_up_ne _ _ (by omega)]
  exact h1 x q
theorem sm_rfl {M : jM} {b c : Nat} : sm M M b c := fun _ _ => rfl
theorem sm_w {M M' : jM} {b c b' c' : Nat} (h : sm M M' b c) (h1 : b' ≤ b) (h2 : c ≤ c') : sm M M' b' c' := fun a q => h a (by omega)
theorem cpy_pt {F G : Nat → Int32} {f : rw_} {z : Nat} (hF : ∀ j, j < z → F j = zN (f j)) : ∀ j, j < z → va_cpy F G 0 0 z j = zN (f j) := by
  intro j hj
  unfold va_cpy
  rw [if_pos (by omega), Nat.zero_add, Nat.sub_zero]
  exact hF j hj
theorem cpy_at {F G : Nat → Int32} {z j : Nat} (hj : j < z) : va_cpy F G 0 0 z j = F j := by
  unfold va_cpy
  rw [if_pos (by omega), Nat.zero_add, Nat.sub_zero]
section
variable {X : jX} {d : Nat} {M : jM} {h : jH}
theorem t_shCopy {b c t t' : Nat} {u v : rw_} (hb : isShip M b u t') (hc : isShip M c v t) (hd : b + 3 ≤ c ∨ c + 3 ≤ b) (hl : v (t + 1) < 2) :
    ∃ M', Rn X (d + 1) 26 0 [some (.ref b), some (.ref c)] [] M h = some (.inl none, M', h) ∧ isShip M' b v t ∧ sm M M' b (b + 3) := by
  obtain ⟨F, G, a1, a2, a3, a4, a5⟩ := hb
  obtain ⟨F', G', b1, b2, b3, b4, b5⟩ := hc
  refine ⟨_, by (simp (disch := first | exact cs_0 | exact cs_1 _ | exact cs_2 _ _ | exact cs_3 _ _ _ | exact cs_4 _ _ _ _ | exact j_one_i _ | exact j_one_r _ | exact j_one_n | omega) only [e26_0, e26_1, e26_2, e26_5, e26_8, e26_9, e26_10, e26_13, e26_16, e26_17, e26_18, e26_21, e26_24, e26_25, e26_26, e26_29, e26_32, e26_33, e26_34, e26_37, e26_40, e26_41, e26_44, e26_45, e26_46, e26_49, e26_50, e26_52, e26_55, e26_56, e26_59, e26_60, e26_61, e26_64, e26_65, e26_67, e26_70, q_k_v, q_k_n, q_k_x, q_kc_v, q_kc_n, q_kc_x, q_rc, q_eq_t, q_eq_f, q_eq_nm, q_eq_mn, q_eq_mt, q_eq_mf, q_lt_t, q_lt_f, q_lt_mn, q_lt_nm, q_le_t, q_le_f, q_le_mn, q_le_nm, q_ac_t, q_ac_f, q_dv_n, q_rm_n, q_ld_n, q_lB_n, q_lJ_n, q_st_n, q_sB_n, q_sJ_n, q_sQ_n, q_cp_n, zN_add, zN_mul, zN_sub, zN_subm, zM_sub, zN_and, va_up_self, va_up_ne, j_add0, j_addt, ne_eq, not_false_eq_true, not_true_eq_false, Nat.reduceAdd, Nat.reduceSub, Nat.reduceMul, Nat.reduceMod, Nat.reduceEqDiff, q_g0_0, q_p0_0, q_g0_1, q_p0_1, q_g0_2, q_p0_2, q_g0_3, q_p0_3, q_g0_4, q_p0_4, q_g0_5, q_p0_5, q_g0_6, q_p0_6, q_g0_7, q_p0_7, q_g1_0, q_p1_0, q_g1_1, q_p1_1, q_g1_2, q_p1_2, q_g1_3, q_p1_3, q_g1_4, q_p1_4, q_g1_5, q_p1_5, q_g1_6, q_p1_6, q_g2_0, q_p2_0, q_g2_1, q_p2_1, q_g2_2, q_p2_2, q_g2_3, q_p2_3, q_g3_0, q_p3_0, q_g3_1, q_p3_1, q_g3_2, q_p3_2, q_g3_3, q_p3_3, q_g3_4, q_p3_4, q_g3_5, q_p3_5, q_g3_6, q_p3_6, q_g4_0, q_p4_0, q_g4_1, q_p4_1, q_g4_2, q_p4_2, q_g4_3, q_p4_3, q_g4_4, q_p4_4, q_g5_0, q_p5_0, q_g5_1, q_p5_1, q_g5_2, q_p5_2, q_g5_3, q_p5_3, q_g5_4, q_p5_4, q_g5_5, q_p5_5, q_g5_6, q_p5_6, q_g5_7, q_p5_7, q_g5_8, q_p5_8, q_g5_9, q_p5_9, q_g5_10, q_p5_10, q_g5_11, q_p5_11, q_g5_12, q_p5_12, q_g5_13, q_p5_13, q_g5_14, q_p5_14, q_g5_15, q_p5_15, a1, a2, a3, b1, b2, b3]; rfl), ?_, ?_⟩
  · refine ⟨va_cpy F' F 0 0 8, va_cpy G' G 0 0 8, ?_, ?_, ?_, cpy_pt b4, cpy_pt b5⟩
    · simp (disch := first | exact cs_0 | exact cs_1 _ | exact cs_2 _ _ | exact cs_3 _ _ _ | exact cs_4 _ _ _ _ | exact j_one_i _ | exact j_one_r _ | exact j_one_n | omega) only [va_up_self, va_up_ne]
    · simp (disch := first | exact cs_0 | exact cs_1 _ | exact cs_2 _ _ | exact cs_3 _ _ _ | exact cs_4 _ _ _ _ | exact j_one_i _ | exact j_one_r _ | exact j_one_n | omega) only [va_up_self, va_up_ne]
    · simp (disch := first | exact cs_0 | exact cs_1 _ | exact cs_2 _ _ | exact cs_3 _ _ _ | exact cs_4 _ _ _ _ | exact j_one_i _ | exact j_one_r _ | exact j_one_n | omega) only [va_up_self, va_up_ne]
  · intro a q
    simp (disch := first | exact cs_0 | exact cs_1 _ | exact cs_2 _ _ | exact cs_3 _ _ _ | exact cs_4 _ _ _ _ | exact j_one_i _ | exact j_one_r _ | exact j_one_n | omega) only [va_up_ne]
theorem t_rgCopy {b c : Nat} {u v : rw_} (hb : isRing M b u) (hc : isRing M c v) (hd : b + 6 ≤ c ∨ c + 6 ≤ b) :
    ∃ M', Rn X (d + 1) 3 0 [some (.ref b), some (.ref c)] [] M h = some (.inl none, M', h) ∧ isRing M' b v ∧ sm M M' b (b + 6) := by
  obtain ⟨K0, K1, K2, K3, K4, a0, a1, a2, a3, a4, a5, a6⟩ := hb
  obtain ⟨L0, L1, L2, L3, L4, b0, b1, b2, b3, b4, b5, b6⟩ := hc
  refine ⟨_, by (simp (disch := first | exact cs_0 | exact cs_1 _ | exact cs_2 _ _ | exact cs_3 _ _ _ | exact cs_4 _ _ _ _ | exact j_one_i _ | exact j_one_r _ | exact j_one_n | omega) only [e3_0, e3_1, e3_2, e3_5, e3_8, e3_9, e3_10, e3_13, e3_16, e3_17, e3_18, e3_21, e3_24, e3_25, e3_28, e3_29, e3_30, e3_33, e3_34, e3_36, e3_39, e3_40, e3_43, e3_44, e3_45, e3_48, e3_49, e3_51, e3_54, e3_55, e3_58, e3_59, e3_60, e3_63, e3_64, e3_66, e3_69, e3_70, e3_73, e3_74, e3_75, e3_78, e3_79, e3_81, e3_84, e3_85, e3_88, e3_89, e3_90, e3_93, e3_94, e3_96, e3_99, q_k_v, q_k_n, q_k_x, q_kc_v, q_kc_n, q_kc_x, q_rc, q_eq_t, q_eq_f, q_eq_nm, q_eq_mn, q_eq_mt, q_eq_mf, q_lt_t, q_lt_f, q_lt_mn, q_lt_nm, q_le_t, q_le_f, q_le_mn, q_le_nm, q_ac_t, q_ac_f, q_dv_n, q_rm_n, q_ld_n, q_lB_n, q_lJ_n, q_st_n, q_sB_n, q_sJ_n, q_sQ_n, q_cp_n, zN_add, zN_mul, zN_sub, zN_subm, zM_sub, zN_and, va_up_self, va_up_ne, j_add0, j_addt, ne_eq, not_false_eq_true, not_true_eq_false, Nat.reduceAdd, Nat.reduceSub, Nat.reduceMul, Nat.reduceMod, Nat.reduceEqDiff, q_g0_0, q_p0_0, q_g0_1, q_p0_1, q_g0_2, q_p0_2, q_g0_3, q_p0_3, q_g0_4, q_p0_4, q_g0_5, q_p0_5, q_g0_6, q_p0_6, q_g0_7, q_p0_7, q_g1_0, q_p1_0, q_g1_1, q_p1_1, q_g1_2, q_p1_2, q_g1_3, q_p1_3, q_g1_4, q_p1_4, q_g1_5, q_p1_5, q_g1_6, q_p1_6, q_g2_0, q_p2_0, q_g2_1, q_p2_1, q_g2_2, q_p2_2, q_g2_3, q_p2_3, q_g3_0, q_p3_0, q_g3_1, q_p3_1, q_g3_2, q_p3_2, q_g3_3, q_p3_3, q_g3_4, q_p3_4, q_g3_5, q_p3_5, q_g3_6, q_p3_6, q_g4_0, q_p4_0, q_g4_1, q_p4_1, q_g4_2, q_p4_2, q_g4_3, q_p4_3, q_g4_4, q_p4_4, q_g5_0, q_p5_0, q_g5_1, q_p5_1, q_g5_2, q_p5_2, q_g5_3, q_p5_3, q_g5_4, q_p5_4, q_g5_5, q_p5_5, q_g5_6, q_p5_6, q_g5_7, q_p5_7, q_g5_8, q_p5_8, q_g5_9, q_p5_9, q_g5_10, q_p5_10, q_g5_11, q_p5_11, q_g5_12, q_p5_12, q_g5_13, q_p5_13, q_g5_14, q_p5_14, q_g5_15, q_p5_15, a0, a1, a2, a3, a4, a5, b0, b1, b2, b3, b4, b5]; rfl), ?_, ?_⟩
  · refine ⟨va_cpy L0 K0 0 0 32, va_cpy L1 K1 0 0 32, va_cpy L2 K2 0 0 32, va_cpy L3 K3 0 0 32, va_cpy L4 K4 0 0 32, ?_, ?_, ?_, ?_, ?_, ?_, ?_⟩
    · simp (disch := first | exact cs_0 | exact cs_1 _ | exact cs_2 _ _ | exact cs_3 _ _ _ | exact cs_4 _ _ _ _ | exact j_one_i _ | exact j_one_r _ | exact j_one_n | omega) only [va_up_self, va_up_ne]
    · simp (disch := first | exact cs_0 | exact cs_1 _ | exact cs_2 _ _ | exact cs_3 _ _ _ | exact cs_4 _ _ _ _ | exact j_one_i _ | exact j_one_r _ | exact j_one_n | omega) only [va_up_self, va_up_ne]
    · simp (disch := first | exact cs_0 | exact cs_1 _ | exact cs_2 _ _ | exact cs_3 _ _ _ | exact cs_4 _ _ _ _ | exact j_one_i _ | exact j_one_r _ | exact j_one_n | omega) only [va_up_self, va_up_ne]
    · simp (disch := first | exact cs_0 | exact cs_1 _ | exact cs_2 _ _ | exact cs_3 _ _ _ | exact cs_4 _ _ _ _ | exact j_one_i _ | exact j_one_r _ | exact j_one_n | omega) only [va_up_self, va_up_ne]
    · simp (disch := first | exact cs_0 | exact cs_1 _ | exact cs_2 _ _ | exact cs_3 _ _ _ | exact cs_4 _ _ _ _ | exact j_one_i _ | exact j_one_r _ | exact j_one_n | omega) only [va_up_self, va_up_ne]
    · simp (disch := first | exact cs_0 | exact cs_1 _ | exact cs_2 _ _ | exact cs_3 _ _ _ | exact cs_4 _ _ _ _ | exact j_one_i _ | exact j_one_r _ | exact j_one_n | omega) only [va_up_self, va_up_ne]
    · intro p q1 q2
      have hp : p % 32 < 32 := Nat.mod_lt _ (by omega)
      rw [cpy_at hp, cpy_at hp, cpy_at hp, cpy_at hp, cpy_at hp]
      exact b6 p q1 q2
  · intro a q
    simp (disch := first | exact cs_0 | exact cs_1 _ | exact cs_2 _ _ | exact cs_3 _ _ _ | exact cs_4 _ _ _ _ | exact j_one_i _ | exact j_one_r _ | exact j_one_n | omega) only [va_up_ne]
theorem t_stCopy {b c : Nat} {u v : rw_} (hb : isSt M b u) (hc : isSt M c v) (hd : b + 13 ≤ c ∨ c + 13 ≤ b) (hl : v 165 < 2) (hl' : v 186 < 2) :
    ∃ M', Rn X (d + 2) 33 0 [some (.ref b), some (.ref c)] [] M h = some (.inl none, M', h) ∧ isSt M' b v ∧ sm M M' b (b + 13) := by
  obtain ⟨a0, a1, a2, a3⟩ := hb
  obtain ⟨b0, b1, b2, b3⟩ := hc
  obtain ⟨M1, e1, r1, s1⟩ := t_rgCopy (X := X) (d := d) (h := j_h0 h) a1 b1 (by omega)
  obtain ⟨M2, e2, r2, s2⟩ := t_shCopy (X := X) (d := d) (h := j_h0 h) (isShip_fr a2 fun a q1 q2 => s1 a (by omega)) (isShip_fr b2 fun a q1 q2 => s1 a (by omega)) (by omega) hl
  obtain ⟨M3, e3, r3, s3⟩ := t_shCopy (X := X) (d := d) (h := j_h0 h) (isShip_fr (isShip_fr a3 fun a q1 q2 => s1 a (by omega)) fun a q1 q2 => s2 a (by omega)) (isShip_fr (isShip_fr b3 fun a q1 q2 => s1 a (by omega)) fun a q1 q2 => s2 a (by omega)) (by omega) hl'
  have a01 := (s1 b (by omega)).trans a0
  have b01 := (s1 c (by omega)).trans b0
  have a02 := (s2 b (by omega)).trans a01
  have b02 := (s2 c (by omega)).trans b01
  have a03 := (s3 b (by omega)).trans a02
  have b03 := (s3 c (by omega)).trans b02
  obtain ⟨K0, K1, K2, K3, K4, c1, -⟩ := a1
  obtain ⟨F, G, c2, -⟩ := id a2
  obtain ⟨F', G', c3, -⟩ := id a3
  have c2' := (s1 (b + 7) (by omega)).trans c2
  have c3' := (s2 (b + 10) (by omega)).trans ((s1 (b + 10) (by omega)).trans c3)
  refine ⟨_, by (simp (disch := first | exact cs_0 | exact cs_1 _ | exact cs_2 _ _ | exact cs_3 _ _ _ | exact cs_4 _ _ _ _ | exact j_one_i _ | exact j_one_r _ | exact j_one_n | omega) only [e33_0, e33_1, e33_4, e33_5, e33_8, e33_11, e33_12, e33_15, e33_16, e33_19, e33_22, e33_23, e33_26, e33_27, e33_30, e33_33, e33_34, e33_35, e33_38, e33_41, q_k_v, q_k_n, q_k_x, q_kc_v, q_kc_n, q_kc_x, q_rc, q_eq_t, q_eq_f, q_eq_nm, q_eq_mn, q_eq_mt, q_eq_mf, q_lt_t, q_lt_f, q_lt_mn, q_lt_nm, q_le_t, q_le_f, q_le_mn, q_le_nm, q_ac_t, q_ac_f, q_dv_n, q_rm_n, q_ld_n, q_lB_n, q_lJ_n, q_st_n, q_sB_n, q_sJ_n, q_sQ_n, q_cp_n, zN_add, zN_mul, zN_sub, zN_subm, zM_sub, zN_and, va_up_self, va_up_ne, j_add0, j_addt, ne_eq, not_false_eq_true, not_true_eq_false, Nat.reduceAdd, Nat.reduceSub, Nat.reduceMul, Nat.reduceMod, Nat.reduceEqDiff, q_g0_0, q_p0_0, q_g0_1, q_p0_1, q_g0_2, q_p0_2, q_g0_3, q_p0_3, q_g0_4, q_p0_4, q_g0_5, q_p0_5, q_g0_6, q_p0_6, q_g0_7, q_p0_7, q_g1_0, q_p1_0, q_g1_1, q_p1_1, q_g1_2, q_p1_2, q_g1_3, q_p1_3, q_g1_4, q_p1_4, q_g1_5, q_p1_5, q_g1_6, q_p1_6, q_g2_0, q_p2_0, q_g2_1, q_p2_1, q_g2_2, q_p2_2, q_g2_3, q_p2_3, q_g3_0, q_p3_0, q_g3_1, q_p3_1, q_g3_2, q_p3_2, q_g3_3, q_p3_3, q_g3_4, q_p3_4, q_g3_5, q_p3_5, q_g3_6, q_p3_6, q_g4_0, q_p4_0, q_g4_1, q_p4_1, q_g4_2, q_p4_2, q_g4_3, q_p4_3, q_g4_4, q_p4_4, q_g5_0, q_p5_0, q_g5_1, q_p5_1, q_g5_2, q_p5_2, q_g5_3, q_p5_3, q_g5_4, q_p5_4, q_g5_5, q_p5_5, q_g5_6, q_p5_6, q_g5_7, q_p5_7, q_g5_8, q_p5_8, q_g5_9, q_p5_9, q_g5_10, q_p5_10, q_g5_11, q_p5_11, q_g5_12, q_p5_12, q_g5_13, q_p5_13, q_g5_14, q_p5_14, q_g5_15, q_p5_15, a0, a01, a02, a03, b0, b01, b02, b03, e1, e2, e3, c1, c2', c3']; rfl), ?_, ?_⟩
  · refine ⟨?_, ?_, ?_, ?_⟩
    · simp (disch := first | exact cs_0 | exact cs_1 _ | exact cs_2 _ _ | exact cs_3 _ _ _ | exact cs_4 _ _ _ _ | exact j_one_i _ | exact j_one_r _ | exact j_one_n | omega) only [va_up_self, va_up_ne]
    · exact isRing_fr r1 fun a q1 q2 => by simp (disch := first | exact cs_0 | exact cs_1 _ | exact cs_2 _ _ | exact cs_3 _ _ _ | exact cs_4 _ _ _ _ | exact j_one_i _ | exact j_one_r _ | exact j_one_n | omega) only [va_up_ne]; rw [s3 a (by omega), s2 a (by omega)]
    · exact isShip_fr r2 fun a q1 q2 => by simp (disch := first | exact cs_0 | exact cs_1 _ | exact cs_2 _ _ | exact cs_3 _ _ _ | exact cs_4 _ _ _ _ | exact j_one_i _ | exact j_one_r _ | exact j_one_n | omega) only [va_up_ne]; rw [s3 a (by omega)]
    · exact isShip_fr r3 fun a q1 q2 => by simp (disch := first | exact cs_0 | exact cs_1 _ | exact cs_2 _ _ | exact cs_3 _ _ _ | exact cs_4 _ _ _ _ | exact j_one_i _ | exact j_one_r _ | exact j_one_n | omega) only [va_up_ne]
  · intro a q
    simp (disch := first | exact cs_0 | exact cs_1 _ | exact cs_2 _ _ | exact cs_3 _ _ _ | exact cs_4 _ _ _ _ | exact j_one_i _ | exact j_one_r _ | exact j_one_n | omega) only [va_up_ne]
    rw [s3 a (by omega), s2 a (by omega), s1 a (by omega)]
end
