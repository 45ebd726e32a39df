/-! the reference: its object at cell 70, and its copying -/
def isM (M : jM) (v : rw_) (cnt : Nat) (u : Nat → rw_) (ln : Nat) (tx : Nat → Nat) (th : Nat) : Prop :=
  (∃ (an x fa le fi se am : Int32) (hs : Int64), M 70 = (.inr (5, [.ref 71, .ref 72, .int (zN cnt), .ref 73, .ref 74, .int (zN ln), .ref 75, .int (zN th), .int an, .int x, .int fa, .int le, .int fi, .int se, .int am, .long hs]))) ∧
  (∃ N : Nat → Int32, M 71 = .inl (0, 206, .inl N) ∧ ∀ j, j < 206 → N j = zN (v j)) ∧
  (∃ K : Nat → Int32, M 72 = .inl (0, 824, .inl K) ∧ ∀ i j, i < cnt → j < 206 → K (206 * i + j) = zN (u i j)) ∧
  (∃ A : Nat → Int32, M 73 = .inl (0, 206, .inl A)) ∧
  (∃ T : Nat → Int32, M 74 = .inl (0, 100, .inl T) ∧ ∀ j, j < ln → T j = zN (tx j)) ∧
  (∃ H : Nat → Int32, M 75 = .inl (0, 8, .inl H)) ∧ cnt ≤ 4 ∧ ln ≤ 100
section
variable {X : jX} {d : Nat} {M : jM} {h : jH} {c l th an at_ fa le fi se am : Int32} {hs : Int64} {N A K : Nat → Int32} {v : rw_}
theorem r_asideL (m0 : M 70 = (.inr (5, [.ref 71, .ref 72, .int c, .ref 73, .ref 74, .int l, .ref 75, .int th, .int an, .int at_, .int fa, .int le, .int fi, .int se, .int am, .long hs]))) (m1 : M 71 = .inl (0, 206, .inl N)) : ∀ n k (A : Nat → Int32), k + n = 206 → (∀ j, j < k → A j = N j) →
    ∃ A' : Nat → Int32, Rn X d 114 2 [some (.ref 70), some (.int (zN k))] [] (va_up M 73 (.inl (0, 206, .inl A))) h = some (.inl none, va_up M 73 (.inl (0, 206, .inl A')), h) ∧ ∀ j, j < 206 → A' j = N j := by
  intro n
  induction n with
  | zero =>
    intro k A hk hA
    have hk' : k = 206 := by omega
    subst hk'
    refine ⟨A, ?_, hA⟩
    simp (disch := first | exact cs_0 | exact cs_1 _ | exact cs_2 _ _ | exact cs_3 _ _ _ | exact cs_4 _ _ _ _ | exact j_one_i _ | exact j_one_r _ | exact j_one_n | omega) only [e114_0, e114_1, e114_2, e114_3, e114_6, e114_9, e114_10, e114_13, e114_14, e114_15, e114_18, e114_19, e114_20, e114_21, e114_24, e114_27, q_k_v, q_k_n, q_k_x, q_kc_v, q_kc_n, q_kc_x, q_rc, q_eq_t, q_eq_f, q_eq_nm, q_eq_mn, q_eq_mt, q_eq_mf, q_lt_t, q_lt_f, q_lt_mn, q_lt_nm, q_le_t, q_le_f, q_le_mn, q_le_nm, q_ac_t, q_ac_f, q_dv_n, q_rm_n, q_ld_n, q_lB_n, q_lJ_n, q_st_n, q_sB_n, q_sJ_n, q_sQ_n, q_cp_n, zN_add, zN_mul, zN_sub, zN_subm, zM_sub, zN_and, va_up_self, va_up_ne, j_add0, j_addt, ne_eq, not_false_eq_true, not_true_eq_false, Nat.reduceAdd, Nat.reduceSub, Nat.reduceMul, Nat.reduceMod, Nat.reduceEqDiff, q_g0_0, q_p0_0, q_g0_1, q_p0_1, q_g0_2, q_p0_2, q_g0_3, q_p0_3, q_g0_4, q_p0_4, q_g0_5, q_p0_5, q_g0_6, q_p0_6, q_g0_7, q_p0_7, q_g1_0, q_p1_0, q_g1_1, q_p1_1, q_g1_2, q_p1_2, q_g1_3, q_p1_3, q_g1_4, q_p1_4, q_g1_5, q_p1_5, q_g1_6, q_p1_6, q_g2_0, q_p2_0, q_g2_1, q_p2_1, q_g2_2, q_p2_2, q_g2_3, q_p2_3, q_g3_0, q_p3_0, q_g3_1, q_p3_1, q_g3_2, q_p3_2, q_g3_3, q_p3_3, q_g3_4, q_p3_4, q_g3_5, q_p3_5, q_g3_6, q_p3_6, q_g4_0, q_p4_0, q_g4_1, q_p4_1, q_g4_2, q_p4_2, q_g4_3, q_p4_3, q_g4_4, q_p4_4, q_g5_0, q_p5_0, q_g5_1, q_p5_1, q_g5_2, q_p5_2, q_g5_3, q_p5_3, q_g5_4, q_p5_4, q_g5_5, q_p5_5, q_g5_6, q_p5_6, q_g5_7, q_p5_7, q_g5_8, q_p5_8, q_g5_9, q_p5_9, q_g5_10, q_p5_10, q_g5_11, q_p5_11, q_g5_12, q_p5_12, q_g5_13, q_p5_13, q_g5_14, q_p5_14, q_g5_15, q_p5_15]
  | succ n ih =>
    intro k A hk hA
    obtain ⟨A', e, r⟩ := ih (k + 1) (va_up A k (N k)) (by omega) (fun j hj => by
      unfold va_up
      split
      · rename_i q
        rw [q]
      · exact hA j (by omega))
    refine ⟨A', ?_, r⟩
    rw [e114_2]
    simp (disch := first | exact cs_0 | exact cs_1 _ | exact cs_2 _ _ | exact cs_3 _ _ _ | exact cs_4 _ _ _ _ | exact j_one_i _ | exact j_one_r _ | exact j_one_n | omega) only [e114_0, e114_1, e114_3, e114_6, e114_9, e114_10, e114_13, e114_14, e114_15, e114_18, e114_19, e114_20, e114_21, e114_24, e114_27, q_k_v, q_k_n, q_k_x, q_kc_v, q_kc_n, q_kc_x, q_rc, q_eq_t, q_eq_f, q_eq_nm, q_eq_mn, q_eq_mt, q_eq_mf, q_lt_t, q_lt_f, q_lt_mn, q_lt_nm, q_le_t, q_le_f, q_le_mn, q_le_nm, q_ac_t, q_ac_f, q_dv_n, q_rm_n, q_ld_n, q_lB_n, q_lJ_n, q_st_n, q_sB_n, q_sJ_n, q_sQ_n, q_cp_n, zN_add, zN_mul, zN_sub, zN_subm, zM_sub, zN_and, va_up_self, va_up_ne, j_add0, j_addt, ne_eq, not_false_eq_true, not_true_eq_false, Nat.reduceAdd, Nat.reduceSub, Nat.reduceMul, Nat.reduceMod, Nat.reduceEqDiff, q_g0_0, q_p0_0, q_g0_1, q_p0_1, q_g0_2, q_p0_2, q_g0_3, q_p0_3, q_g0_4, q_p0_4, q_g0_5, q_p0_5, q_g0_6, q_p0_6, q_g0_7, q_p0_7, q_g1_0, q_p1_0, q_g1_1, q_p1_1, q_g1_2, q_p1_2, q_g1_3, q_p1_3, q_g1_4, q_p1_4, q_g1_5, q_p1_5, q_g1_6, q_p1_6, q_g2_0, q_p2_0, q_g2_1, q_p2_1, q_g2_2, q_p2_2, q_g2_3, q_p2_3, q_g3_0, q_p3_0, q_g3_1, q_p3_1, q_g3_2, q_p3_2, q_g3_3, q_p3_3, q_g3_4, q_p3_4, q_g3_5, q_p3_5, q_g3_6, q_p3_6, q_g4_0, q_p4_0, q_g4_1, q_p4_1, q_g4_2, q_p4_2, q_g4_3, q_p4_3, q_g4_4, q_p4_4, q_g5_0, q_p5_0, q_g5_1, q_p5_1, q_g5_2, q_p5_2, q_g5_3, q_p5_3, q_g5_4, q_p5_4, q_g5_5, q_p5_5, q_g5_6, q_p5_6, q_g5_7, q_p5_7, q_g5_8, q_p5_8, q_g5_9, q_p5_9, q_g5_10, q_p5_10, q_g5_11, q_p5_11, q_g5_12, q_p5_12, q_g5_13, q_p5_13, q_g5_14, q_p5_14, q_g5_15, q_p5_15, m0, m1, vu_up, e]
theorem r_asides (m0 : M 70 = (.inr (5, [.ref 71, .ref 72, .int c, .ref 73, .ref 74, .int l, .ref 75, .int th, .int an, .int at_, .int fa, .int le, .int fi, .int se, .int am, .long hs]))) (m1 : M 71 = .inl (0, 206, .inl N)) (m3 : M 73 = .inl (0, 206, .inl A)) :
    ∃ A' : Nat → Int32, Rn X d 114 0 [some (.ref 70), none] [] M h = some (.inl none, va_up M 73 (.inl (0, 206, .inl A')), h) ∧ ∀ j, j < 206 → A' j = N j := by
  obtain ⟨A', e, r⟩ := r_asideL (X := X) (d := d) (h := h) m0 m1 206 0 A (by omega) (fun j hj => by omega)
  rw [va_eta m3] at e
  exact ⟨A', by simp (disch := first | exact cs_0 | exact cs_1 _ | exact cs_2 _ _ | exact cs_3 _ _ _ | exact cs_4 _ _ _ _ | exact j_one_i _ | exact j_one_r _ | exact j_one_n | omega) only [e114_0, e114_1, e114_3, e114_6, e114_9, e114_10, e114_13, e114_14, e114_15, e114_18, e114_19, e114_20, e114_21, e114_24, e114_27, q_k_v, q_k_n, q_k_x, q_kc_v, q_kc_n, q_kc_x, q_rc, q_eq_t, q_eq_f, q_eq_nm, q_eq_mn, q_eq_mt, q_eq_mf, q_lt_t, q_lt_f, q_lt_mn, q_lt_nm, q_le_t, q_le_f, q_le_mn, q_le_nm, q_ac_t, q_ac_f, q_dv_n, q_rm_n, q_ld_n, q_lB_n, q_lJ_n, q_st_n, q_sB_n, q_sJ_n, q_sQ_n, q_cp_n, zN_add, zN_mul, zN_sub, zN_subm, zM_sub, zN_and, va_up_self, va_up_ne, j_add0, j_addt, ne_eq, not_false_eq_true, not_true_eq_false, Nat.reduceAdd, Nat.reduceSub, Nat.reduceMul, Nat.reduceMod, Nat.reduceEqDiff, q_g0_0, q_p0_0, q_g0_1, q_p0_1, q_g0_2, q_p0_2, q_g0_3, q_p0_3, q_g0_4, q_p0_4, q_g0_5, q_p0_5, q_g0_6, q_p0_6, q_g0_7, q_p0_7, q_g1_0, q_p1_0, q_g1_1, q_p1_1, q_g1_2, q_p1_2, q_g1_3, q_p1_3, q_g1_4, q_p1_4, q_g1_5, q_p1_5, q_g1_6, q_p1_6, q_g2_0, q_p2_0, q_g2_1, q_p2_1, q_g2_2, q_p2_2, q_g2_3, q_p2_3, q_g3_0, q_p3_0, q_g3_1, q_p3_1, q_g3_2, q_p3_2, q_g3_3, q_p3_3, q_g3_4, q_p3_4, q_g3_5, q_p3_5, q_g3_6, q_p3_6, q_g4_0, q_p4_0, q_g4_1, q_p4_1, q_g4_2, q_p4_2, q_g4_3, q_p4_3, q_g4_4, q_p4_4, q_g5_0, q_p5_0, q_g5_1, q_p5_1, q_g5_2, q_p5_2, q_g5_3, q_p5_3, q_g5_4, q_p5_4, q_g5_5, q_p5_5, q_g5_6, q_p5_6, q_g5_7, q_p5_7, q_g5_8, q_p5_8, q_g5_9, q_p5_9, q_g5_10, q_p5_10, q_g5_11, q_p5_11, q_g5_12, q_p5_12, q_g5_13, q_p5_13, q_g5_14, q_p5_14, q_g5_15, q_p5_15, e], r⟩
theorem r_shiftL (m0 : M 70 = (.inr (5, [.ref 71, .ref 72, .int c, .ref 73, .ref 74, .int l, .ref 75, .int th, .int an, .int at_, .int fa, .int le, .int fi, .int se, .int am, .long hs]))) (m3 : M 73 = .inl (0, 206, .inl A)) : ∀ n k (K' : Nat → Int32), k + n = 824 → 206 ≤ k → (∀ j, j < k - 206 → K' j = K (j + 206)) → (∀ j, k ≤ j → j < 824 → K' j = K j) →
    ∃ K'' : Nat → Int32, (∀ j, j < 618 → K'' j = K (j + 206)) ∧ Rn X d 115 12 [some (.ref 70), some (.int (zN k))] [] (va_up M 72 (.inl (0, 824, .inl K'))) h = Rn X d 115 41 [some (.ref 70), some (.int (zN 824))] [] (va_up M 72 (.inl (0, 824, .inl K''))) h := by
  intro n
  induction n with
  | zero =>
    intro k K' hk h2 hA hB
    have hk' : k = 824 := by omega
    subst hk'
    refine ⟨K', fun j hj => hA j (by omega), ?_⟩
    rw [e115_12]
    simp (disch := first | exact cs_0 | exact cs_1 _ | exact cs_2 _ _ | exact cs_3 _ _ _ | exact cs_4 _ _ _ _ | exact j_one_i _ | exact j_one_r _ | exact j_one_n | omega) only [e115_0, e115_1, e115_4, e115_5, e115_8, e115_11, e115_13, e115_16, e115_19, e115_20, e115_23, e115_24, e115_27, e115_28, e115_29, e115_32, e115_33, e115_34, e115_35, e115_38, e115_42, e115_43, e115_46, e115_47, e115_48, e115_49, e115_52, e115_55, e115_56, e115_59, e115_62, e115_63, e115_66, e115_67, e115_68, e115_69, e115_70, e115_73, e115_74, e115_75, e115_76, e115_79, e115_82, e115_83, e115_83r, e115_84, e115_87, e115_88, e115_89, e115_92, q_k_v, q_k_n, q_k_x, q_kc_v, q_kc_n, q_kc_x, q_rc, q_eq_t, q_eq_f, q_eq_nm, q_eq_mn, q_eq_mt, q_eq_mf, q_lt_t, q_lt_f, q_lt_mn, q_lt_nm, q_le_t, q_le_f, q_le_mn, q_le_nm, q_ac_t, q_ac_f, q_dv_n, q_rm_n, q_ld_n, q_lB_n, q_lJ_n, q_st_n, q_sB_n, q_sJ_n, q_sQ_n, q_cp_n, zN_add, zN_mul, zN_sub, zN_subm, zM_sub, zN_and, va_up_self, va_up_ne, j_add0, j_addt, ne_eq, not_false_eq_true, not_true_eq_false, Nat.reduceAdd, Nat.reduceSub, Nat.reduceMul, Nat.reduceMod, Nat.reduceEqDiff, q_g0_0, q_p0_0, q_g0_1, q_p0_1, q_g0_2, q_p0_2, q_g0_3, q_p0_3, q_g0_4, q_p0_4, q_g0_5, q_p0_5, q_g0_6, q_p0_6, q_g0_7, q_p0_7, q_g1_0, q_p1_0, q_g1_1, q_p1_1, q_g1_2, q_p1_2, q_g1_3, q_p1_3, q_g1_4, q_p1_4, q_g1_5, q_p1_5, q_g1_6, q_p1_6, q_g2_0, q_p2_0, q_g2_1, q_p2_1, q_g2_2, q_p2_2, q_g2_3, q_p2_3, q_g3_0, q_p3_0, q_g3_1, q_p3_1, q_g3_2, q_p3_2, q_g3_3, q_p3_3, q_g3_4, q_p3_4, q_g3_5, q_p3_5, q_g3_6, q_p3_6, q_g4_0, q_p4_0, q_g4_1, q_p4_1, q_g4_2, q_p4_2, q_g4_3, q_p4_3, q_g4_4, q_p4_4, q_g5_0, q_p5_0, q_g5_1, q_p5_1, q_g5_2, q_p5_2, q_g5_3, q_p5_3, q_g5_4, q_p5_4, q_g5_5, q_p5_5, q_g5_6, q_p5_6, q_g5_7, q_p5_7, q_g5_8, q_p5_8, q_g5_9, q_p5_9, q_g5_10, q_p5_10, q_g5_11, q_p5_11, q_g5_12, q_p5_12, q_g5_13, q_p5_13, q_g5_14, q_p5_14, q_g5_15, q_p5_15]
  | succ n ih =>
    intro k K' hk h2 hA hB
    obtain ⟨K'', r, e⟩ := ih (k + 1) (va_up K' (k - 206) (K k)) (by omega) (by omega) (fun j hj => by
      unfold va_up
      split
      · rename_i q
        rw [q]
        congr 1
        omega
      · exact hA j (by omega)) (fun j h3 h4 => by
      rw [va_up_ne _ _ (by omega)]
      exact hB j (by omega) h4)
    have ek := hB k (Nat.le_refl _) (by omega)
    refine ⟨K'', r, ?_⟩
    rw [e115_12]
    simp (disch := first | exact cs_0 | exact cs_1 _ | exact cs_2 _ _ | exact cs_3 _ _ _ | exact cs_4 _ _ _ _ | exact j_one_i _ | exact j_one_r _ | exact j_one_n | omega) only [e115_0, e115_1, e115_4, e115_5, e115_8, e115_11, e115_13, e115_16, e115_19, e115_20, e115_23, e115_24, e115_27, e115_28, e115_29, e115_32, e115_33, e115_34, e115_35, e115_38, e115_42, e115_43, e115_46, e115_47, e115_48, e115_49, e115_52, e115_55, e115_56, e115_59, e115_62, e115_63, e115_66, e115_67, e115_68, e115_69, e115_70, e115_73, e115_74, e115_75, e115_76, e115_79, e115_82, e115_83, e115_83r, e115_84, e115_87, e115_88, e115_89, e115_92, q_k_v, q_k_n, q_k_x, q_kc_v, q_kc_n, q_kc_x, q_rc, q_eq_t, q_eq_f, q_eq_nm, q_eq_mn, q_eq_mt, q_eq_mf, q_lt_t, q_lt_f, q_lt_mn, q_lt_nm, q_le_t, q_le_f, q_le_mn, q_le_nm, q_ac_t, q_ac_f, q_dv_n, q_rm_n, q_ld_n, q_lB_n, q_lJ_n, q_st_n, q_sB_n, q_sJ_n, q_sQ_n, q_cp_n, zN_add, zN_mul, zN_sub, zN_subm, zM_sub, zN_and, va_up_self, va_up_ne, j_add0, j_addt, ne_eq, not_false_eq_true, not_true_eq_false, Nat.reduceAdd, Nat.reduceSub, Nat.reduceMul, Nat.reduceMod, Nat.reduceEqDiff, q_g0_0, q_p0_0, q_g0_1, q_p0_1, q_g0_2, q_p0_2, q_g0_3, q_p0_3, q_g0_4, q_p0_4, q_g0_5, q_p0_5, q_g0_6, q_p0_6, q_g0_7, q_p0_7, q_g1_0, q_p1_0, q_g1_1, q_p1_1, q_g1_2, q_p1_2, q_g1_3, q_p1_3, q_g1_4, q_p1_4, q_g1_5, q_p1_5, q_g1_6, q_p1_6, q_g2_0, q_p2_0, q_g2_1, q_p2_1, q_g2_2, q_p2_2, q_g2_3, q_p2_3, q_g3_0, q_p3_0, q_g3_1, q_p3_1, q_g3_2, q_p3_2, q_g3_3, q_p3_3, q_g3_4, q_p3_4, q_g3_5, q_p3_5, q_g3_6, q_p3_6, q_g4_0, q_p4_0, q_g4_1, q_p4_1, q_g4_2, q_p4_2, q_g4_3, q_p4_3, q_g4_4, q_p4_4, q_g5_0, q_p5_0, q_g5_1, q_p5_1, q_g5_2, q_p5_2, q_g5_3, q_p5_3, q_g5_4, q_p5_4, q_g5_5, q_p5_5, q_g5_6, q_p5_6, q_g5_7, q_p5_7, q_g5_8, q_p5_8, q_g5_9, q_p5_9, q_g5_10, q_p5_10, q_g5_11, q_p5_11, q_g5_12, q_p5_12, q_g5_13, q_p5_13, q_g5_14, q_p5_14, q_g5_15, q_p5_15, m0, m3, vu_up, ek, e]
theorem r_keepL {i : Nat} (m0 : M 70 = (.inr (5, [.ref 71, .ref 72, .int (zN i), .ref 73, .ref 74, .int l, .ref 75, .int th, .int an, .int at_, .int fa, .int le, .int fi, .int se, .int am, .long hs]))) (m3 : M 73 = .inl (0, 206, .inl A)) (hi : i < 4) : ∀ n k (K' : Nat → Int32), k + n = 206 → (∀ j, j < k → K' (206 * i + j) = A j) → (∀ j, j < 206 * i → K' j = K j) →
    ∃ K'' : Nat → Int32, (∀ j, j < 206 → K'' (206 * i + j) = A j) ∧ (∀ j, j < 206 * i → K'' j = K j) ∧ Rn X d 115 48 [some (.ref 70), some (.int (zN k))] [] (va_up M 72 (.inl (0, 824, .inl K'))) h = some (.inl none, va_up (va_up M 72 (.inl (0, 824, .inl K''))) 70 (.inr (5, [.ref 71, .ref 72, .int (zN (i + 1)), .ref 73, .ref 74, .int l, .ref 75, .int th, .int an, .int at_, .int fa, .int le, .int fi, .int se, .int am, .long hs])), h) := by
  intro n
  induction n with
  | zero =>
    intro k K' hk hA hB
    have hk' : k = 206 := by omega
    subst hk'
    refine ⟨K', hA, hB, ?_⟩
    rw [e115_48]
    simp (disch := first | exact cs_0 | exact cs_1 _ | exact cs_2 _ _ | exact cs_3 _ _ _ | exact cs_4 _ _ _ _ | exact j_one_i _ | exact j_one_r _ | exact j_one_n | omega) only [e115_0, e115_1, e115_4, e115_5, e115_8, e115_11, e115_12, e115_13, e115_16, e115_19, e115_20, e115_23, e115_24, e115_27, e115_28, e115_29, e115_32, e115_33, e115_34, e115_35, e115_38, e115_41, e115_42, e115_43, e115_46, e115_47, e115_49, e115_52, e115_55, e115_56, e115_59, e115_62, e115_63, e115_66, e115_67, e115_68, e115_69, e115_70, e115_73, e115_74, e115_75, e115_76, e115_79, e115_82, e115_83, e115_83r, e115_84, e115_87, e115_88, e115_89, e115_92, q_k_v, q_k_n, q_k_x, q_kc_v, q_kc_n, q_kc_x, q_rc, q_eq_t, q_eq_f, q_eq_nm, q_eq_mn, q_eq_mt, q_eq_mf, q_lt_t, q_lt_f, q_lt_mn, q_lt_nm, q_le_t, q_le_f, q_le_mn, q_le_nm, q_ac_t, q_ac_f, q_dv_n, q_rm_n, q_ld_n, q_lB_n, q_lJ_n, q_st_n, q_sB_n, q_sJ_n, q_sQ_n, q_cp_n, zN_add, zN_mul, zN_sub, zN_subm, zM_sub, zN_and, va_up_self, va_up_ne, j_add0, j_addt, ne_eq, not_false_eq_true, not_true_eq_false, Nat.reduceAdd, Nat.reduceSub, Nat.reduceMul, Nat.reduceMod, Nat.reduceEqDiff, q_g0_0, q_p0_0, q_g0_1, q_p0_1, q_g0_2, q_p0_2, q_g0_3, q_p0_3, q_g0_4, q_p0_4, q_g0_5, q_p0_5, q_g0_6, q_p0_6, q_g0_7, q_p0_7, q_g1_0, q_p1_0, q_g1_1, q_p1_1, q_g1_2, q_p1_2, q_g1_3, q_p1_3, q_g1_4, q_p1_4, q_g1_5, q_p1_5, q_g1_6, q_p1_6, q_g2_0, q_p2_0, q_g2_1, q_p2_1, q_g2_2, q_p2_2, q_g2_3, q_p2_3, q_g3_0, q_p3_0, q_g3_1, q_p3_1, q_g3_2, q_p3_2, q_g3_3, q_p3_3, q_g3_4, q_p3_4, q_g3_5, q_p3_5, q_g3_6, q_p3_6, q_g4_0, q_p4_0, q_g4_1, q_p4_1, q_g4_2, q_p4_2, q_g4_3, q_p4_3, q_g4_4, q_p4_4, q_g5_0, q_p5_0, q_g5_1, q_p5_1, q_g5_2, q_p5_2, q_g5_3, q_p5_3, q_g5_4, q_p5_4, q_g5_5, q_p5_5, q_g5_6, q_p5_6, q_g5_7, q_p5_7, q_g5_8, q_p5_8, q_g5_9, q_p5_9, q_g5_10, q_p5_10, q_g5_11, q_p5_11, q_g5_12, q_p5_12, q_g5_13, q_p5_13, q_g5_14, q_p5_14, q_g5_15, q_p5_15, m0]
  | succ n ih =>
    intro k K' hk hA hB
    obtain ⟨K'', r1, r2, e⟩ := ih (k + 1) (va_up K' (206 * i + k) (A k)) (by omega) (fun j hj => by
      unfold va_up
      split
      · rename_i q
        have : j = k := by omega
        rw [this]
      · exact hA j (by omega)) (fun j hj => by
      rw [va_up_ne _ _ (by omega)]
      exact hB j hj)
    refine ⟨K'', r1, r2, ?_⟩
    rw [e115_48]
    simp (disch := first | exact cs_0 | exact cs_1 _ | exact cs_2 _ _ | exact cs_3 _ _ _ | exact cs_4 _ _ _ _ | exact j_one_i _ | exact j_one_r _ | exact j_one_n | omega) only [e115_0, e115_1, e115_4, e115_5, e115_8, e115_11, e115_12, e115_13, e115_16, e115_19, e115_20, e115_23, e115_24, e115_27, e115_28, e115_29, e115_32, e115_33, e115_34, e115_35, e115_38, e115_41, e115_42, e115_43, e115_46, e115_47, e115_49, e115_52, e115_55, e115_56, e115_59, e115_62, e115_63, e115_66, e115_67, e115_68, e115_69, e115_70, e115_73, e115_74, e115_75, e115_76, e115_79, e115_82, e115_83, e115_83r, e115_84, e115_87, e115_88, e115_89, e115_92, q_k_v, q_k_n, q_k_x, q_kc_v, q_kc_n, q_kc_x, q_rc, q_eq_t, q_eq_f, q_eq_nm, q_eq_mn, q_eq_mt, q_eq_mf, q_lt_t, q_lt_f, q_lt_mn, q_lt_nm, q_le_t, q_le_f, q_le_mn, q_le_nm, q_ac_t, q_ac_f, q_dv_n, q_rm_n, q_ld_n, q_lB_n, q_lJ_n, q_st_n, q_sB_n, q_sJ_n, q_sQ_n, q_cp_n, zN_add, zN_mul, zN_sub, zN_subm, zM_sub, zN_and, va_up_self, va_up_ne, j_add0, j_addt, ne_eq, not_false_eq_true, not_true_eq_false, Nat.reduceAdd, Nat.reduceSub, Nat.reduceMul, Nat.reduceMod, Nat.reduceEqDiff, q_g0_0, q_p0_0, q_g0_1, q_p0_1, q_g0_2, q_p0_2, q_g0_3, q_p0_3, q_g0_4, q_p0_4, q_g0_5, q_p0_5, q_g0_6, q_p0_6, q_g0_7, q_p0_7, q_g1_0, q_p1_0, q_g1_1, q_p1_1, q_g1_2, q_p1_2, q_g1_3, q_p1_3, q_g1_4, q_p1_4, q_g1_5, q_p1_5, q_g1_6, q_p1_6, q_g2_0, q_p2_0, q_g2_1, q_p2_1, q_g2_2, q_p2_2, q_g2_3, q_p2_3, q_g3_0, q_p3_0, q_g3_1, q_p3_1, q_g3_2, q_p3_2, q_g3_3, q_p3_3, q_g3_4, q_p3_4, q_g3_5, q_p3_5, q_g3_6, q_p3_6, q_g4_0, q_p4_0, q_g4_1, q_p4_1, q_g4_2, q_p4_2, q_g4_3, q_p4_3, q_g4_4, q_p4_4, q_g5_0, q_p5_0, q_g5_1, q_p5_1, q_g5_2, q_p5_2, q_g5_3, q_p5_3, q_g5_4, q_p5_4, q_g5_5, q_p5_5, q_g5_6, q_p5_6, q_g5_7, q_p5_7, q_g5_8, q_p5_8, q_g5_9, q_p5_9, q_g5_10, q_p5_10, q_g5_11, q_p5_11, q_g5_12, q_p5_12, q_g5_13, q_p5_13, q_g5_14, q_p5_14, q_g5_15, q_p5_15, m0, m3, vu_up, e]
theorem r_saves {cnt : Nat} {u : Nat → rw_} (m0 : M 70 = (.inr (5, [.ref 71, .ref 72, .int (zN cnt), .ref 73, .ref 74, .int l, .ref 75, .int th, .int an, .int at_, .int fa, .int le, .int fi, .int se, .int am, .long hs]))) (m2 : M 72 = .inl (0, 824, .inl K)) (m3 : M 73 = .inl (0, 206, .inl A)) (hA : ∀ j, j < 206 → A j = zN (v j)) (hK : ∀ i j, i < cnt → j < 206 → K (206 * i + j) = zN (u i j)) (hc : cnt ≤ 4) :
    ∃ M', Rn X d 115 0 [some (.ref 70), none] [] M h = some (.inl none, M', h) ∧ M' 70 = (.inr (5, [.ref 71, .ref 72, .int (zN (svC cnt)), .ref 73, .ref 74, .int l, .ref 75, .int th, .int an, .int at_, .int fa, .int le, .int fi, .int se, .int am, .long hs])) ∧ (∃ K' : Nat → Int32, M' 72 = .inl (0, 824, .inl K') ∧ ∀ i j, i < svC cnt → j < 206 → K' (206 * i + j) = zN (svU u cnt v i j)) ∧ ∀ a, a ≠ 70 → a ≠ 72 → M' a = M a := by
  by_cases q : cnt < 4
  · obtain ⟨K', r1, r2, e⟩ := r_keepL (X := X) (d := d) (h := h) (K := K) m0 m3 q 206 0 K (by omega) (fun j hj => by omega) (fun j hj => rfl)
    rw [va_eta m2] at e
    refine ⟨va_up (va_up M 72 (.inl (0, 824, .inl K'))) 70 (.inr (5, [.ref 71, .ref 72, .int (zN (cnt + 1)), .ref 73, .ref 74, .int l, .ref 75, .int th, .int an, .int at_, .int fa, .int le, .int fi, .int se, .int am, .long hs])), ?_, ?_, ⟨K', ?_, ?_⟩, ?_⟩
    · simp (disch := first | exact cs_0 | exact cs_1 _ | exact cs_2 _ _ | exact cs_3 _ _ _ | exact cs_4 _ _ _ _ | exact j_one_i _ | exact j_one_r _ | exact j_one_n | omega) only [e115_0, e115_1, e115_4, e115_5, e115_8, e115_11, e115_13, e115_16, e115_19, e115_20, e115_23, e115_24, e115_27, e115_28, e115_29, e115_32, e115_33, e115_34, e115_35, e115_38, e115_41, e115_42, e115_43, e115_46, e115_47, e115_49, e115_52, e115_55, e115_56, e115_59, e115_62, e115_63, e115_66, e115_67, e115_68, e115_69, e115_70, e115_73, e115_74, e115_75, e115_76, e115_79, e115_82, e115_83, e115_83r, e115_84, e115_87, e115_88, e115_89, e115_92, q_k_v, q_k_n, q_k_x, q_kc_v, q_kc_n, q_kc_x, q_rc, q_eq_t, q_eq_f, q_eq_nm, q_eq_mn, q_eq_mt, q_eq_mf, q_lt_t, q_lt_f, q_lt_mn, q_lt_nm, q_le_t, q_le_f, q_le_mn, q_le_nm, q_ac_t, q_ac_f, q_dv_n, q_rm_n, q_ld_n, q_lB_n, q_lJ_n, q_st_n, q_sB_n, q_sJ_n, q_sQ_n, q_cp_n, zN_add, zN_mul, zN_sub, zN_subm, zM_sub, zN_and, va_up_self, va_up_ne, j_add0, j_addt, ne_eq, not_false_eq_true, not_true_eq_false, Nat.reduceAdd, Nat.reduceSub, Nat.reduceMul, Nat.reduceMod, Nat.reduceEqDiff, q_g0_0, q_p0_0, q_g0_1, q_p0_1, q_g0_2, q_p0_2, q_g0_3, q_p0_3, q_g0_4, q_p0_4, q_g0_5, q_p0_5, q_g0_6, q_p0_6, q_g0_7, q_p0_7, q_g1_0, q_p1_0, q_g1_1, q_p1_1, q_g1_2, q_p1_2, q_g1_3, q_p1_3, q_g1_4, q_p1_4, q_g1_5, q_p1_5, q_g1_6, q_p1_6, q_g2_0, q_p2_0, q_g2_1, q_p2_1, q_g2_2, q_p2_2, q_g2_3, q_p2_3, q_g3_0, q_p3_0, q_g3_1, q_p3_1, q_g3_2, q_p3_2, q_g3_3, q_p3_3, q_g3_4, q_p3_4, q_g3_5, q_p3_5, q_g3_6, q_p3_6, q_g4_0, q_p4_0, q_g4_1, q_p4_1, q_g4_2, q_p4_2, q_g4_3, q_p4_3, q_g4_4, q_p4_4, q_g5_0, q_p5_0, q_g5_1, q_p5_1, q_g5_2, q_p5_2, q_g5_3, q_p5_3, q_g5_4, q_p5_4, q_g5_5, q_p5_5, q_g5_6, q_p5_6, q_g5_7, q_p5_7, q_g5_8, q_p5_8, q_g5_9, q_p5_9, q_g5_10, q_p5_10, q_g5_11, q_p5_11, q_g5_12, q_p5_12, q_g5_13, q_p5_13, q_g5_14, q_p5_14, q_g5_15, q_p5_15, m0, e]
    · unfold svC
      rw [if_pos q, va_up_self]
    · rw [va_up_ne _ _ (by omega), va_up_self]
    · intro i j hi hj
      unfold svC at hi
      rw [if_pos q] at hi
      unfold svU
      rw [if_pos q]
      by_cases e1 : i = cnt
      · subst e1
        rw [va_up_self, r1 j hj, hA j hj]
      · rw [va_up_ne _ _ e1, r2 _ (by
          have : i + 1 ≤ cnt := by omega
          have := Nat.mul_le_mul_left 206 this
          omega)]
        exact hK i j (by omega) hj
    · intro a h1 h2
      rw [va_up_ne _ _ h1, va_up_ne _ _ h2]
  · have hc4 : cnt = 4 := by omega
    subst hc4
    obtain ⟨K1, k1, e1⟩ := r_shiftL (X := X) (d := d) (h := h) (K := K) m0 m3 618 206 K (by omega) (by omega) (fun j hj => by omega) (fun j _ _ => rfl)
    rw [va_eta m2] at e1
    obtain ⟨M2, hM2⟩ : ∃ M2, M2 = va_up (va_up M 72 (.inl (0, 824, .inl K1))) 70 (.inr (5, [.ref 71, .ref 72, .int (zN 3), .ref 73, .ref 74, .int l, .ref 75, .int th, .int an, .int at_, .int fa, .int le, .int fi, .int se, .int am, .long hs])) := ⟨_, rfl⟩
    have n0 : M2 70 = (.inr (5, [.ref 71, .ref 72, .int (zN 3), .ref 73, .ref 74, .int l, .ref 75, .int th, .int an, .int at_, .int fa, .int le, .int fi, .int se, .int am, .long hs])) := by rw [hM2, va_up_self]
    have n2 : M2 72 = .inl (0, 824, .inl K1) := by rw [hM2, va_up_ne _ _ (by omega), va_up_self]
    have nn : ∀ a, a ≠ 70 → a ≠ 72 → M2 a = M a := fun a h1 h2 => by rw [hM2, va_up_ne _ _ h1, va_up_ne _ _ h2]
    obtain ⟨K', r1, r2, e⟩ := r_keepL (X := X) (d := d) (h := h) (M := M2) (K := K1) n0 ((nn 73 (by omega) (by omega)).trans m3) (by omega) 206 0 K1 (by omega) (fun j hj => by omega) (fun j hj => rfl)
    rw [va_eta n2] at e
    refine ⟨va_up (va_up M2 72 (.inl (0, 824, .inl K'))) 70 (.inr (5, [.ref 71, .ref 72, .int (zN 4), .ref 73, .ref 74, .int l, .ref 75, .int th, .int an, .int at_, .int fa, .int le, .int fi, .int se, .int am, .long hs])), ?_, ?_, ⟨K', ?_, ?_⟩, ?_⟩
    · have hM2' := hM2.symm
      simp (disch := first | exact cs_0 | exact cs_1 _ | exact cs_2 _ _ | exact cs_3 _ _ _ | exact cs_4 _ _ _ _ | exact j_one_i _ | exact j_one_r _ | exact j_one_n | omega) only [e115_0, e115_1, e115_4, e115_5, e115_8, e115_11, e115_13, e115_16, e115_19, e115_20, e115_23, e115_24, e115_27, e115_28, e115_29, e115_32, e115_33, e115_34, e115_35, e115_38, e115_42, e115_43, e115_46, e115_47, e115_49, e115_52, e115_55, e115_56, e115_59, e115_62, e115_63, e115_66, e115_67, e115_68, e115_69, e115_70, e115_73, e115_74, e115_75, e115_76, e115_79, e115_82, e115_83, e115_83r, e115_84, e115_87, e115_88, e115_89, e115_92, q_k_v, q_k_n, q_k_x, q_kc_v, q_kc_n, q_kc_x, q_rc, q_eq_t, q_eq_f, q_eq_nm, q_eq_mn, q_eq_mt, q_eq_mf, q_lt_t, q_lt_f, q_lt_mn, q_lt_nm, q_le_t, q_le_f, q_le_mn, q_le_nm, q_ac_t, q_ac_f, q_dv_n, q_rm_n, q_ld_n, q_lB_n, q_lJ_n, q_st_n, q_sB_n, q_sJ_n, q_sQ_n, q_cp_n, zN_add, zN_mul, zN_sub, zN_subm, zM_sub, zN_and, va_up_self, va_up_ne, j_add0, j_addt, ne_eq, not_false_eq_true, not_true_eq_false, Nat.reduceAdd, Nat.reduceSub, Nat.reduceMul, Nat.reduceMod, Nat.reduceEqDiff, q_g0_0, q_p0_0, q_g0_1, q_p0_1, q_g0_2, q_p0_2, q_g0_3, q_p0_3, q_g0_4, q_p0_4, q_g0_5, q_p0_5, q_g0_6, q_p0_6, q_g0_7, q_p0_7, q_g1_0, q_p1_0, q_g1_1, q_p1_1, q_g1_2, q_p1_2, q_g1_3, q_p1_3, q_g1_4, q_p1_4, q_g1_5, q_p1_5, q_g1_6, q_p1_6, q_g2_0, q_p2_0, q_g2_1, q_p2_1, q_g2_2, q_p2_2, q_g2_3, q_p2_3, q_g3_0, q_p3_0, q_g3_1, q_p3_1, q_g3_2, q_p3_2, q_g3_3, q_p3_3, q_g3_4, q_p3_4, q_g3_5, q_p3_5, q_g3_6, q_p3_6, q_g4_0, q_p4_0, q_g4_1, q_p4_1, q_g4_2, q_p4_2, q_g4_3, q_p4_3, q_g4_4, q_p4_4, q_g5_0, q_p5_0, q_g5_1, q_p5_1, q_g5_2, q_p5_2, q_g5_3, q_p5_3, q_g5_4, q_p5_4, q_g5_5, q_p5_5, q_g5_6, q_p5_6, q_g5_7, q_p5_7, q_g5_8, q_p5_8, q_g5_9, q_p5_9, q_g5_10, q_p5_10, q_g5_11, q_p5_11, q_g5_12, q_p5_12, q_g5_13, q_p5_13, q_g5_14, q_p5_14, q_g5_15, q_p5_15, m0, e1]
      rw [e115_41]
      simp (disch := first | exact cs_0 | exact cs_1 _ | exact cs_2 _ _ | exact cs_3 _ _ _ | exact cs_4 _ _ _ _ | exact j_one_i _ | exact j_one_r _ | exact j_one_n | omega) only [e115_0, e115_1, e115_4, e115_5, e115_8, e115_11, e115_13, e115_16, e115_19, e115_20, e115_23, e115_24, e115_27, e115_28, e115_29, e115_32, e115_33, e115_34, e115_35, e115_38, e115_41, e115_42, e115_43, e115_46, e115_47, e115_49, e115_52, e115_55, e115_56, e115_59, e115_62, e115_63, e115_66, e115_67, e115_68, e115_69, e115_70, e115_73, e115_74, e115_75, e115_76, e115_79, e115_82, e115_83, e115_83r, e115_84, e115_87, e115_88, e115_89, e115_92, q_k_v, q_k_n, q_k_x, q_kc_v, q_kc_n, q_kc_x, q_rc, q_eq_t, q_eq_f, q_eq_nm, q_eq_mn, q_eq_mt, q_eq_mf, q_lt_t, q_lt_f, q_lt_mn, q_lt_nm, q_le_t, q_le_f, q_le_mn, q_le_nm, q_ac_t, q_ac_f, q_dv_n, q_rm_n, q_ld_n, q_lB_n, q_lJ_n, q_st_n, q_sB_n, q_sJ_n, q_sQ_n, q_cp_n, zN_add, zN_mul, zN_sub, zN_subm, zM_sub, zN_and, va_up_self, va_up_ne, j_add0, j_addt, ne_eq, not_false_eq_true, not_true_eq_false, Nat.reduceAdd, Nat.reduceSub, Nat.reduceMul, Nat.reduceMod, Nat.reduceEqDiff, q_g0_0, q_p0_0, q_g0_1, q_p0_1, q_g0_2, q_p0_2, q_g0_3, q_p0_3, q_g0_4, q_p0_4, q_g0_5, q_p0_5, q_g0_6, q_p0_6, q_g0_7, q_p0_7, q_g1_0, q_p1_0, q_g1_1, q_p1_1, q_g1_2, q_p1_2, q_g1_3, q_p1_3, q_g1_4, q_p1_4, q_g1_5, q_p1_5, q_g1_6, q_p1_6, q_g2_0, q_p2_0, q_g2_1, q_p2_1, q_g2_2, q_p2_2, q_g2_3, q_p2_3, q_g3_0, q_p3_0, q_g3_1, q_p3_1, q_g3_2, q_p3_2, q_g3_3, q_p3_3, q_g3_4, q_p3_4, q_g3_5, q_p3_5, q_g3_6, q_p3_6, q_g4_0, q_p4_0, q_g4_1, q_p4_1, q_g4_2, q_p4_2, q_g4_3, q_p4_3, q_g4_4, q_p4_4, q_g5_0, q_p5_0, q_g5_1, q_p5_1, q_g5_2, q_p5_2, q_g5_3, q_p5_3, q_g5_4, q_p5_4, q_g5_5, q_p5_5, q_g5_6, q_p5_6, q_g5_7, q_p5_7, q_g5_8, q_p5_8, q_g5_9, q_p5_9, q_g5_10, q_p5_10, q_g5_11, q_p5_11, q_g5_12, q_p5_12, q_g5_13, q_p5_13, q_g5_14, q_p5_14, q_g5_15, q_p5_15, m0, hM2', e]
    · rw [va_up_self]
      rfl
    · rw [va_up_ne _ _ (by omega), va_up_self]
    · intro i j hi hj
      have hi : i < 4 := hi
      unfold svU
      rw [if_neg q]
      by_cases e1 : i < 3
      · rw [if_pos e1, r2 _ (by omega), k1 _ (by omega), show 206 * i + j + 206 = 206 * (i + 1) + j by omega]
        exact hK (i + 1) j (by omega) hj
      · have : i = 3 := by omega
        subst this
        rw [if_neg e1, r1 j hj, hA j hj]
    · intro a h1 h2
      rw [va_up_ne _ _ h1, va_up_ne _ _ h2]
      exact nn a h1 h2
end
