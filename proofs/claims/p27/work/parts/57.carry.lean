/-! the class's carryOut -/
/-- commands done one behind another: how many, and the row then -/
def runF (tx : Nat → Nat) (ln : Nat) : Nat → Nat → rw_ → Nat × rw_
  | 0, _, v => (0, v)
  | n + 1, a, v => if a < ln then (match cmdF tx ln a with
    | .inl _ => (0, v)
    | .inr (f, s, m, p) => (match obeyF v (tx a) f s m with
      | none => (0, v)
      | some v' => ((runF tx ln n p v').1 + 1, (runF tx ln n p v').2))) else (0, v)
theorem runF_e {tx : Nat → Nat} {ln n a : Nat} {v : rw_} (h : ¬ a < ln) : runF tx ln n a v = (0, v) := by
  cases n with
  | zero => rfl
  | succ n => rw [runF, if_neg h]
theorem runF_n {tx : Nat → Nat} {ln n a f s m p : Nat} {v : rw_} (h : a < ln) (e : cmdF tx ln a = .inr (f, s, m, p)) (e2 : obeyF v (tx a) f s m = none) : runF tx ln (n + 1) a v = (0, v) := by
  rw [runF, if_pos h, e]
  dsimp only
  rw [e2]
theorem runF_s {tx : Nat → Nat} {ln n a f s m p : Nat} {v v' : rw_} (h : a < ln) (e : cmdF tx ln a = .inr (f, s, m, p)) (e2 : obeyF v (tx a) f s m = some v') : runF tx ln (n + 1) a v = ((runF tx ln n p v').1 + 1, (runF tx ln n p v').2) := by
  rw [runF, if_pos h, e]
  dsimp only
  rw [e2]
theorem ok_run {tx : Nat → Nat} {ln : Nat} : ∀ n a B (v : rw_), okV v B → okV (runF tx ln n a v).2 (B + n) := by
  intro n
  induction n with
  | zero => exact fun a B v hv => hv
  | succ n ih =>
    intro a B v hv
    by_cases c : a < ln
    · rcases hc : cmdF tx ln a with p | ⟨f, s, m, p⟩
      · have e : runF tx ln (n + 1) a v = (0, v) := by
          rw [runF, if_pos c, hc]
        rw [e]
        exact okV_w hv (by omega)
      · rcases ho : obeyF v (tx a) f s m with _ | v'
        · rw [runF_n c hc ho]
          exact okV_w hv (by omega)
        · rw [runF_s c hc ho]
          have := ih p (B + 1) v' (ok_obey hv (cmdF_r hc) ho)
          rw [show B + (n + 1) = B + 1 + n by omega]
          exact this
    · rw [runF_e c]
      exact okV_w hv (by omega)
/-- the object, with the text's reading at a -/
def isP (M : jM) (v : rw_) (cnt : Nat) (u : Nat → rw_) (ln : Nat) (tx : Nat → Nat) (a : Nat) : Prop := isJ M v cnt u ∧ (∃ (B : Nat → Int32) (x2 x3 x4 x5 : Int32), M 15 = .inr (3, [.int (zN ln), .ref 16, .int (zN a), .int x2, .int x3, .int x4, .int x5]) ∧ M 16 = .inl (1, 100, .inl B) ∧ ∀ j, j < ln → B j = zN (tx j)) ∧ (∃ F : Nat → Int32, M 17 = .inl (0, 8, .inl F)) ∧ ln ≤ 100
section
variable {X : jX} {d : Nat} {M : jM} {h : jH} {v : rw_} {cnt ln B : Nat} {u : Nat → rw_} {tx : Nat → Nat}
theorem isP_O {a : Nat} (hP : isP M v cnt u ln tx a) : isO M v cnt u ln tx := by
  obtain ⟨h1, ⟨Y, x2, x3, x4, x5, b1, b2, b3⟩, h3, h4⟩ := hP
  exact ⟨h1, ⟨Y, zN a, x2, x3, x4, x5, b1, b2, b3⟩, h3, h4⟩
theorem t_run (ht : ∀ j, j < ln → tx j < 128) : ∀ n k a B (v : rw_) (M : jM), k + n = 100 → a ≤ 100 → isP M v cnt u ln tx a → okV v B → B + n < 1000000000 → synF tx ln n a = none →
    ∃ M', Rn X (d + 7) 83 31 [some (.ref 0), some (.int (zM 0)), some (.int (zN k))] [] M h = some (.inl (some (.int (zN (k + (runF tx ln n a v).1)))), M', h) ∧ isO M' (runF tx ln n a v).2 cnt u ln tx ∧ sm M M' 0 70 := by
  intro n
  induction n with
  | zero =>
    intro k a B v M hk ha hP hv hB hs
    have hk' : k = 100 := by omega
    subst hk'
    refine ⟨M, ?_, isP_O hP, sm_rfl⟩
    simp (disch := first | exact cs_0 | exact cs_1 _ | exact cs_2 _ _ | exact cs_3 _ _ _ | exact cs_4 _ _ _ _ | exact j_one_i _ | exact j_one_r _ | exact j_one_n | omega) only [e83_0, e83_1, e83_4, e83_7, e83_8, e83_9, e83_10, e83_13, e83_15, e83_16, e83_17, e83_18, e83_19, e83_22, e83_23, e83_26, e83_29, e83_30, e83_31, e83_32, e83_34, e83_37, e83_38, e83_41, e83_44, e83_47, e83_48, e83_51, e83_54, e83_57, e83_58, e83_61, e83_64, e83_65, e83_66, e83_69, e83_72, e83_74, q_k_v, q_k_n, q_k_x, q_kc_v, q_kc_n, q_kc_x, q_rc, q_eq_t, q_eq_f, q_eq_nm, q_eq_mn, q_eq_mt, q_eq_mf, q_lt_t, q_lt_f, q_lt_mn, q_lt_nm, q_le_t, q_le_f, q_le_mn, q_le_nm, q_ac_t, q_ac_f, q_dv_n, q_rm_n, q_ld_n, q_lB_n, q_lJ_n, q_st_n, q_sB_n, q_sJ_n, q_sQ_n, q_cp_n, zN_add, zN_mul, zN_sub, zN_subm, zM_sub, zN_and, va_up_self, va_up_ne, j_add0, j_addt, ne_eq, not_false_eq_true, not_true_eq_false, Nat.reduceAdd, Nat.reduceSub, Nat.reduceMul, Nat.reduceMod, Nat.reduceEqDiff, q_g0_0, q_p0_0, q_g0_1, q_p0_1, q_g0_2, q_p0_2, q_g0_3, q_p0_3, q_g0_4, q_p0_4, q_g0_5, q_p0_5, q_g0_6, q_p0_6, q_g0_7, q_p0_7, q_g1_0, q_p1_0, q_g1_1, q_p1_1, q_g1_2, q_p1_2, q_g1_3, q_p1_3, q_g1_4, q_p1_4, q_g1_5, q_p1_5, q_g1_6, q_p1_6, q_g2_0, q_p2_0, q_g2_1, q_p2_1, q_g2_2, q_p2_2, q_g2_3, q_p2_3, q_g3_0, q_p3_0, q_g3_1, q_p3_1, q_g3_2, q_p3_2, q_g3_3, q_p3_3, q_g3_4, q_p3_4, q_g3_5, q_p3_5, q_g3_6, q_p3_6, q_g4_0, q_p4_0, q_g4_1, q_p4_1, q_g4_2, q_p4_2, q_g4_3, q_p4_3, q_g4_4, q_p4_4, q_g5_0, q_p5_0, q_g5_1, q_p5_1, q_g5_2, q_p5_2, q_g5_3, q_p5_3, q_g5_4, q_p5_4, q_g5_5, q_p5_5, q_g5_6, q_p5_6, q_g5_7, q_p5_7, q_g5_8, q_p5_8, q_g5_9, q_p5_9, q_g5_10, q_p5_10, q_g5_11, q_p5_11, q_g5_12, q_p5_12, q_g5_13, q_p5_13, q_g5_14, q_p5_14, q_g5_15, q_p5_15, runF]
  | succ n ih =>
    intro k a B v M hk ha hP hv hB hs
    have hP' := hP
    obtain ⟨h1, ⟨Y, x2, x3, x4, x5, b1, b2, b3⟩, ⟨F, f1⟩, hl⟩ := hP'
    have a0 := isJ_0 h1
    rw [e83_31]
    by_cases c : a < ln
    · obtain ⟨g1, g2⟩ := t_cmd (X := X) (d := d + 2) (h := j_h0 h) b1 b2 b3 hl ht (a := a) (by omega)
      rcases hc : cmdF tx ln a with p | ⟨f, s, m, p⟩
      · rw [synF_l c hc] at hs
        cases hs
      · rw [synF_r c hc] at hs
        obtain ⟨nu', e, en⟩ := g2 f s m p hc
        have l := cmdF_p hc
        obtain ⟨M1, hM1⟩ : ∃ M1, M1 = va_up M 15 (.inr (3, [.int (zN ln), .ref 16, .int (zN p), .int (zN (tx a)), .int (zN f), .int (zN s), .int nu'])) := ⟨_, rfl⟩
        have b1' : M1 15 = .inr (3, [.int (zN ln), .ref 16, .int (zN p), .int (zN (tx a)), .int (zN f), .int (zN s), .int nu']) := by rw [hM1, va_up_self]
        have s1 : ∀ q, q ≠ 15 → M1 q = M q := fun q hq => by rw [hM1, va_up_ne _ _ hq]
        have J1 : isJ M1 v cnt u := isJ_fr h1 fun q hq => s1 q (by omega)
        have a0' := isJ_0 J1
        rw [← hM1] at e
        obtain ⟨o1, o2⟩ := t_obey (X := X) (d := d) (h := j_h0 h) (isJ_st J1) a0' b1' en hv (by omega) (cmdF_r hc)
        rcases ho : obeyF v (tx a) f s m with _ | v'
        · have e3 := o2 ho
          rw [runF_n c hc ho]
          refine ⟨M1, ?_, ⟨J1, ⟨Y, zN p, zN (tx a), zN f, zN s, nu', b1', (s1 16 (by omega)).trans b2, b3⟩, ⟨F, (s1 17 (by omega)).trans f1⟩, hl⟩, fun q hq => s1 q (by omega)⟩
          simp (disch := first | exact cs_0 | exact cs_1 _ | exact cs_2 _ _ | exact cs_3 _ _ _ | exact cs_4 _ _ _ _ | exact j_one_i _ | exact j_one_r _ | exact j_one_n | omega) only [e83_0, e83_1, e83_4, e83_7, e83_8, e83_9, e83_10, e83_13, e83_15, e83_16, e83_17, e83_18, e83_19, e83_22, e83_23, e83_26, e83_29, e83_30, e83_32, e83_34, e83_37, e83_38, e83_41, e83_44, e83_47, e83_48, e83_51, e83_54, e83_57, e83_58, e83_61, e83_64, e83_65, e83_66, e83_69, e83_72, e83_74, e52_0, e52_1, e52_4, e52_5, e52_8, e52_11, e52_12, e52_15, e52_16, q_k_v, q_k_n, q_k_x, q_kc_v, q_kc_n, q_kc_x, q_rc, q_eq_t, q_eq_f, q_eq_nm, q_eq_mn, q_eq_mt, q_eq_mf, q_lt_t, q_lt_f, q_lt_mn, q_lt_nm, q_le_t, q_le_f, q_le_mn, q_le_nm, q_ac_t, q_ac_f, q_dv_n, q_rm_n, q_ld_n, q_lB_n, q_lJ_n, q_st_n, q_sB_n, q_sJ_n, q_sQ_n, q_cp_n, zN_add, zN_mul, zN_sub, zN_subm, zM_sub, zN_and, va_up_self, va_up_ne, j_add0, j_addt, ne_eq, not_false_eq_true, not_true_eq_false, Nat.reduceAdd, Nat.reduceSub, Nat.reduceMul, Nat.reduceMod, Nat.reduceEqDiff, q_g0_0, q_p0_0, q_g0_1, q_p0_1, q_g0_2, q_p0_2, q_g0_3, q_p0_3, q_g0_4, q_p0_4, q_g0_5, q_p0_5, q_g0_6, q_p0_6, q_g0_7, q_p0_7, q_g1_0, q_p1_0, q_g1_1, q_p1_1, q_g1_2, q_p1_2, q_g1_3, q_p1_3, q_g1_4, q_p1_4, q_g1_5, q_p1_5, q_g1_6, q_p1_6, q_g2_0, q_p2_0, q_g2_1, q_p2_1, q_g2_2, q_p2_2, q_g2_3, q_p2_3, q_g3_0, q_p3_0, q_g3_1, q_p3_1, q_g3_2, q_p3_2, q_g3_3, q_p3_3, q_g3_4, q_p3_4, q_g3_5, q_p3_5, q_g3_6, q_p3_6, q_g4_0, q_p4_0, q_g4_1, q_p4_1, q_g4_2, q_p4_2, q_g4_3, q_p4_3, q_g4_4, q_p4_4, q_g5_0, q_p5_0, q_g5_1, q_p5_1, q_g5_2, q_p5_2, q_g5_3, q_p5_3, q_g5_4, q_p5_4, q_g5_5, q_p5_5, q_g5_6, q_p5_6, q_g5_7, q_p5_7, q_g5_8, q_p5_8, q_g5_9, q_p5_9, q_g5_10, q_p5_10, q_g5_11, q_p5_11, q_g5_12, q_p5_12, q_g5_13, q_p5_13, q_g5_14, q_p5_14, q_g5_15, q_p5_15, a0, b1, e, a0', e3, Nat.add_zero]
        · obtain ⟨M2, e3, r3, s3⟩ := o1 v' ho
          have hv' := ok_obey hv (cmdF_r hc) ho
          have P2 : isP M2 v' cnt u ln tx p := ⟨isJ_now J1 r3 s3, ⟨Y, zN (tx a), zN f, zN s, nu', by rw [s3 _ (by omega), b1'], by rw [s3 _ (by omega), s1 _ (by omega), b2], b3⟩, ⟨F, by rw [s3 _ (by omega), s1 _ (by omega), f1]⟩, hl⟩
          obtain ⟨M3, e4, r4, s4⟩ := ih (k + 1) p (B + 1) v' M2 (by omega) (by omega) P2 hv' (by omega) hs
          rw [runF_s c hc ho]
          refine ⟨M3, ?_, r4, sm_trans (fun q hq => (s3 q (by omega)).trans (s1 q (by omega))) s4⟩
          have ek : k + ((runF tx ln n p v').1 + 1) = k + 1 + (runF tx ln n p v').1 := by omega
          rw [ek]
          simp (disch := first | exact cs_0 | exact cs_1 _ | exact cs_2 _ _ | exact cs_3 _ _ _ | exact cs_4 _ _ _ _ | exact j_one_i _ | exact j_one_r _ | exact j_one_n | omega) only [e83_0, e83_1, e83_4, e83_7, e83_8, e83_9, e83_10, e83_13, e83_15, e83_16, e83_17, e83_18, e83_19, e83_22, e83_23, e83_26, e83_29, e83_30, e83_32, e83_34, e83_37, e83_38, e83_41, e83_44, e83_47, e83_48, e83_51, e83_54, e83_57, e83_58, e83_61, e83_64, e83_65, e83_66, e83_69, e83_72, e83_74, e52_0, e52_1, e52_4, e52_5, e52_8, e52_11, e52_12, e52_15, e52_16, q_k_v, q_k_n, q_k_x, q_kc_v, q_kc_n, q_kc_x, q_rc, q_eq_t, q_eq_f, q_eq_nm, q_eq_mn, q_eq_mt, q_eq_mf, q_lt_t, q_lt_f, q_lt_mn, q_lt_nm, q_le_t, q_le_f, q_le_mn, q_le_nm, q_ac_t, q_ac_f, q_dv_n, q_rm_n, q_ld_n, q_lB_n, q_lJ_n, q_st_n, q_sB_n, q_sJ_n, q_sQ_n, q_cp_n, zN_add, zN_mul, zN_sub, zN_subm, zM_sub, zN_and, va_up_self, va_up_ne, j_add0, j_addt, ne_eq, not_false_eq_true, not_true_eq_false, Nat.reduceAdd, Nat.reduceSub, Nat.reduceMul, Nat.reduceMod, Nat.reduceEqDiff, q_g0_0, q_p0_0, q_g0_1, q_p0_1, q_g0_2, q_p0_2, q_g0_3, q_p0_3, q_g0_4, q_p0_4, q_g0_5, q_p0_5, q_g0_6, q_p0_6, q_g0_7, q_p0_7, q_g1_0, q_p1_0, q_g1_1, q_p1_1, q_g1_2, q_p1_2, q_g1_3, q_p1_3, q_g1_4, q_p1_4, q_g1_5, q_p1_5, q_g1_6, q_p1_6, q_g2_0, q_p2_0, q_g2_1, q_p2_1, q_g2_2, q_p2_2, q_g2_3, q_p2_3, q_g3_0, q_p3_0, q_g3_1, q_p3_1, q_g3_2, q_p3_2, q_g3_3, q_p3_3, q_g3_4, q_p3_4, q_g3_5, q_p3_5, q_g3_6, q_p3_6, q_g4_0, q_p4_0, q_g4_1, q_p4_1, q_g4_2, q_p4_2, q_g4_3, q_p4_3, q_g4_4, q_p4_4, q_g5_0, q_p5_0, q_g5_1, q_p5_1, q_g5_2, q_p5_2, q_g5_3, q_p5_3, q_g5_4, q_p5_4, q_g5_5, q_p5_5, q_g5_6, q_p5_6, q_g5_7, q_p5_7, q_g5_8, q_p5_8, q_g5_9, q_p5_9, q_g5_10, q_p5_10, q_g5_11, q_p5_11, q_g5_12, q_p5_12, q_g5_13, q_p5_13, q_g5_14, q_p5_14, q_g5_15, q_p5_15, a0, b1, e, a0', e3, e4]
    · refine ⟨M, ?_, ?_, sm_rfl⟩
      · rw [runF_e c]
        simp (disch := first | exact cs_0 | exact cs_1 _ | exact cs_2 _ _ | exact cs_3 _ _ _ | exact cs_4 _ _ _ _ | exact j_one_i _ | exact j_one_r _ | exact j_one_n | omega) only [e83_0, e83_1, e83_4, e83_7, e83_8, e83_9, e83_10, e83_13, e83_15, e83_16, e83_17, e83_18, e83_19, e83_22, e83_23, e83_26, e83_29, e83_30, e83_32, e83_34, e83_37, e83_38, e83_41, e83_44, e83_47, e83_48, e83_51, e83_54, e83_57, e83_58, e83_61, e83_64, e83_65, e83_66, e83_69, e83_72, e83_74, e52_0, e52_1, e52_4, e52_5, e52_8, e52_11, e52_12, e52_15, e52_16, q_k_v, q_k_n, q_k_x, q_kc_v, q_kc_n, q_kc_x, q_rc, q_eq_t, q_eq_f, q_eq_nm, q_eq_mn, q_eq_mt, q_eq_mf, q_lt_t, q_lt_f, q_lt_mn, q_lt_nm, q_le_t, q_le_f, q_le_mn, q_le_nm, q_ac_t, q_ac_f, q_dv_n, q_rm_n, q_ld_n, q_lB_n, q_lJ_n, q_st_n, q_sB_n, q_sJ_n, q_sQ_n, q_cp_n, zN_add, zN_mul, zN_sub, zN_subm, zM_sub, zN_and, va_up_self, va_up_ne, j_add0, j_addt, ne_eq, not_false_eq_true, not_true_eq_false, Nat.reduceAdd, Nat.reduceSub, Nat.reduceMul, Nat.reduceMod, Nat.reduceEqDiff, q_g0_0, q_p0_0, q_g0_1, q_p0_1, q_g0_2, q_p0_2, q_g0_3, q_p0_3, q_g0_4, q_p0_4, q_g0_5, q_p0_5, q_g0_6, q_p0_6, q_g0_7, q_p0_7, q_g1_0, q_p1_0, q_g1_1, q_p1_1, q_g1_2, q_p1_2, q_g1_3, q_p1_3, q_g1_4, q_p1_4, q_g1_5, q_p1_5, q_g1_6, q_p1_6, q_g2_0, q_p2_0, q_g2_1, q_p2_1, q_g2_2, q_p2_2, q_g2_3, q_p2_3, q_g3_0, q_p3_0, q_g3_1, q_p3_1, q_g3_2, q_p3_2, q_g3_3, q_p3_3, q_g3_4, q_p3_4, q_g3_5, q_p3_5, q_g3_6, q_p3_6, q_g4_0, q_p4_0, q_g4_1, q_p4_1, q_g4_2, q_p4_2, q_g4_3, q_p4_3, q_g4_4, q_p4_4, q_g5_0, q_p5_0, q_g5_1, q_p5_1, q_g5_2, q_p5_2, q_g5_3, q_p5_3, q_g5_4, q_p5_4, q_g5_5, q_p5_5, q_g5_6, q_p5_6, q_g5_7, q_p5_7, q_g5_8, q_p5_8, q_g5_9, q_p5_9, q_g5_10, q_p5_10, q_g5_11, q_p5_11, q_g5_12, q_p5_12, q_g5_13, q_p5_13, q_g5_14, q_p5_14, q_g5_15, q_p5_15, a0, b1, Nat.add_zero]
      · rw [runF_e c]
        exact isP_O hP
def carI (tx : Nat → Nat) (ln : Nat) (v : rw_) : Int32 := match synF tx ln 100 0 with
  | some p => zM (9 + p)
  | none => zN (runF tx ln 100 0 v).1
theorem synF_lt {tx : Nat → Nat} {ln : Nat} (hl : ln ≤ 100) : ∀ n a p, synF tx ln n a = some p → p < 200 := by
  intro n
  induction n with
  | zero => exact fun a p e => by cases e
  | succ n ih =>
    intro a p e
    by_cases c : a < ln
    · rcases hc : cmdF tx ln a with q | ⟨f, s, m, q⟩
      · rw [synF_l c hc] at e
        have := cmdF_f hc
        cases e
        omega
      · rw [synF_r c hc] at e
        exact ih q p e
    · rw [synF_e c] at e
      cases e
theorem o_carry_e {p : Nat} (hO : isO M v cnt u ln tx) (ht : ∀ j, j < ln → tx j < 128) (he : synF tx ln 100 0 = some p) :
    ∃ M', Rn X (d + 7) 83 0 [some (.ref 0), none, none] [] M h = some (.inl (some (.int (zM (9 + p)))), M', h) ∧ isO M' v cnt u ln tx ∧ sm M M' 0 70 := by
  obtain ⟨h1, ⟨Y, x1, x2, x3, x4, x5, b1, b2, b3⟩, ⟨F, f1⟩, hl⟩ := hO
  have a0 := isJ_0 h1
  obtain ⟨a', le', fi', se', nu', e⟩ := t_synF (X := X) (d := d + 1) (h := j_h0 h) (er := none) b3 hl ht b1 b2
  have lp := synF_lt hl _ _ _ he
  rw [he] at e
  refine ⟨_, ?_, ⟨isJ_fr h1 fun q hq => va_up_ne _ _ (by omega), ⟨Y, a', le', fi', se', nu', va_up_self _ _ _, (va_up_ne _ _ (by omega)).trans b2, b3⟩, ⟨F, (va_up_ne _ _ (by omega)).trans f1⟩, hl⟩, fun q hq => va_up_ne _ _ (by omega)⟩
  dsimp only [synI] at e
  simp (disch := first | exact cs_0 | exact cs_1 _ | exact cs_2 _ _ | exact cs_3 _ _ _ | exact cs_4 _ _ _ _ | exact j_one_i _ | exact j_one_r _ | exact j_one_n | omega) only [e83_0, e83_1, e83_4, e83_7, e83_8, e83_9, e83_10, e83_13, e83_15, e83_16, e83_17, e83_18, e83_19, e83_22, e83_23, e83_26, e83_29, e83_30, e83_32, e83_34, e83_37, e83_38, e83_41, e83_44, e83_47, e83_48, e83_51, e83_54, e83_57, e83_58, e83_61, e83_64, e83_65, e83_66, e83_69, e83_72, e83_74, q_k_v, q_k_n, q_k_x, q_kc_v, q_kc_n, q_kc_x, q_rc, q_eq_t, q_eq_f, q_eq_nm, q_eq_mn, q_eq_mt, q_eq_mf, q_lt_t, q_lt_f, q_lt_mn, q_lt_nm, q_le_t, q_le_f, q_le_mn, q_le_nm, q_ac_t, q_ac_f, q_dv_n, q_rm_n, q_ld_n, q_lB_n, q_lJ_n, q_st_n, q_sB_n, q_sJ_n, q_sQ_n, q_cp_n, zN_add, zN_mul, zN_sub, zN_subm, zM_sub, zN_and, va_up_self, va_up_ne, j_add0, j_addt, ne_eq, not_false_eq_true, not_true_eq_false, Nat.reduceAdd, Nat.reduceSub, Nat.reduceMul, Nat.reduceMod, Nat.reduceEqDiff, q_g0_0, q_p0_0, q_g0_1, q_p0_1, q_g0_2, q_p0_2, q_g0_3, q_p0_3, q_g0_4, q_p0_4, q_g0_5, q_p0_5, q_g0_6, q_p0_6, q_g0_7, q_p0_7, q_g1_0, q_p1_0, q_g1_1, q_p1_1, q_g1_2, q_p1_2, q_g1_3, q_p1_3, q_g1_4, q_p1_4, q_g1_5, q_p1_5, q_g1_6, q_p1_6, q_g2_0, q_p2_0, q_g2_1, q_p2_1, q_g2_2, q_p2_2, q_g2_3, q_p2_3, q_g3_0, q_p3_0, q_g3_1, q_p3_1, q_g3_2, q_p3_2, q_g3_3, q_p3_3, q_g3_4, q_p3_4, q_g3_5, q_p3_5, q_g3_6, q_p3_6, q_g4_0, q_p4_0, q_g4_1, q_p4_1, q_g4_2, q_p4_2, q_g4_3, q_p4_3, q_g4_4, q_p4_4, q_g5_0, q_p5_0, q_g5_1, q_p5_1, q_g5_2, q_p5_2, q_g5_3, q_p5_3, q_g5_4, q_p5_4, q_g5_5, q_p5_5, q_g5_6, q_p5_6, q_g5_7, q_p5_7, q_g5_8, q_p5_8, q_g5_9, q_p5_9, q_g5_10, q_p5_10, q_g5_11, q_p5_11, q_g5_12, q_p5_12, q_g5_13, q_p5_13, q_g5_14, q_p5_14, q_g5_15, q_p5_15, a0, b1, e]
theorem o_carry (hO : isO M v cnt u ln tx) (ht : ∀ j, j < ln → tx j < 128) (hv : okV v B) (hB : B + 100 < 1000000000) (he : synF tx ln 100 0 = none) :
    ∃ M', Rn X (d + 7) 83 0 [some (.ref 0), none, none] [] M h = some (.inl (some (.int (zN (runF tx ln 100 0 v).1))), M', h) ∧ isO M' (runF tx ln 100 0 v).2 (svC cnt) (svU u cnt v) ln tx ∧ sm M M' 0 70 := by
  obtain ⟨q0, q1, q2, q3, q4, q5, q6, q7⟩ := id hv
  obtain ⟨h1, ⟨Y, x1, x2, x3, x4, x5, b1, b2, b3⟩, ⟨F, f1⟩, hl⟩ := hO
  have a0 := isJ_0 h1
  obtain ⟨a', le', fi', se', nu', e⟩ := t_synF (X := X) (d := d + 1) (h := j_h0 h) (er := none) b3 hl ht b1 b2
  rw [he] at e
  obtain ⟨M1, hM1⟩ : ∃ M1, M1 = va_up M 15 (.inr (3, [.int (zN ln), .ref 16, .int a', .int le', .int fi', .int se', .int nu'])) := ⟨_, rfl⟩
  have s1 : ∀ q, q ≠ 15 → M1 q = M q := fun q hq => by rw [hM1, va_up_ne _ _ hq]
  have J1 : isJ M1 v cnt u := isJ_fr h1 fun q hq => s1 q (by omega)
  rw [← hM1] at e
  have a01 := isJ_0 J1
  obtain ⟨M2, e2, J2, m2, s2⟩ := t_save (X := X) (d := d + 3) (h := j_h0 h) J1 q6.2.2.2.1 q7.2.2.2.1
  have a02 := isJ_0 J2
  have b12 : M2 15 = .inr (3, [.int (zN ln), .ref 16, .int a', .int le', .int fi', .int se', .int nu']) := by rw [m2 15 (by omega) (by omega), hM1, va_up_self]
  obtain ⟨M3, hM3⟩ : ∃ M3, M3 = va_up M2 15 (.inr (3, [.int (zN ln), .ref 16, .int (zN 0), .int le', .int fi', .int se', .int nu'])) := ⟨_, rfl⟩
  have s3 : ∀ q, q ≠ 15 → M3 q = M2 q := fun q hq => by rw [hM3, va_up_ne _ _ hq]
  have P3 : isP M3 v (svC cnt) (svU u cnt v) ln tx 0 := ⟨isJ_fr J2 fun q hq => s3 q (by omega), ⟨Y, le', fi', se', nu', by rw [hM3, va_up_self], by rw [s3 _ (by omega), m2 16 (by omega) (by omega), s1 _ (by omega), b2], b3⟩, ⟨F, by rw [s3 _ (by omega), m2 17 (by omega) (by omega), s1 _ (by omega), f1]⟩, hl⟩
  obtain ⟨M4, e4, r4, s4⟩ := t_run (X := X) (d := d) (h := h) ht 100 0 0 B v M3 (by omega) (by omega) P3 hv (by omega) he
  refine ⟨M4, ?_, r4, sm_trans (sm_trans (fun q hq => s1 q (by omega)) s2) (sm_trans (fun q hq => s3 q (by omega)) s4)⟩
  rw [Nat.zero_add] at e4
  have hM3' := hM3.symm
  dsimp only [synI] at e
  simp (disch := first | exact cs_0 | exact cs_1 _ | exact cs_2 _ _ | exact cs_3 _ _ _ | exact cs_4 _ _ _ _ | exact j_one_i _ | exact j_one_r _ | exact j_one_n | omega) only [e83_0, e83_1, e83_4, e83_7, e83_8, e83_9, e83_10, e83_13, e83_15, e83_16, e83_17, e83_18, e83_19, e83_22, e83_23, e83_26, e83_29, e83_30, e83_32, e83_34, e83_37, e83_38, e83_41, e83_44, e83_47, e83_48, e83_51, e83_54, e83_57, e83_58, e83_61, e83_64, e83_65, e83_66, e83_69, e83_72, e83_74, e51_0, e51_1, e51_2, e51_5, q_k_v, q_k_n, q_k_x, q_kc_v, q_kc_n, q_kc_x, q_rc, q_eq_t, q_eq_f, q_eq_nm, q_eq_mn, q_eq_mt, q_eq_mf, q_lt_t, q_lt_f, q_lt_mn, q_lt_nm, q_le_t, q_le_f, q_le_mn, q_le_nm, q_ac_t, q_ac_f, q_dv_n, q_rm_n, q_ld_n, q_lB_n, q_lJ_n, q_st_n, q_sB_n, q_sJ_n, q_sQ_n, q_cp_n, zN_add, zN_mul, zN_sub, zN_subm, zM_sub, zN_and, va_up_self, va_up_ne, j_add0, j_addt, ne_eq, not_false_eq_true, not_true_eq_false, Nat.reduceAdd, Nat.reduceSub, Nat.reduceMul, Nat.reduceMod, Nat.reduceEqDiff, q_g0_0, q_p0_0, q_g0_1, q_p0_1, q_g0_2, q_p0_2, q_g0_3, q_p0_3, q_g0_4, q_p0_4, q_g0_5, q_p0_5, q_g0_6, q_p0_6, q_g0_7, q_p0_7, q_g1_0, q_p1_0, q_g1_1, q_p1_1, q_g1_2, q_p1_2, q_g1_3, q_p1_3, q_g1_4, q_p1_4, q_g1_5, q_p1_5, q_g1_6, q_p1_6, q_g2_0, q_p2_0, q_g2_1, q_p2_1, q_g2_2, q_p2_2, q_g2_3, q_p2_3, q_g3_0, q_p3_0, q_g3_1, q_p3_1, q_g3_2, q_p3_2, q_g3_3, q_p3_3, q_g3_4, q_p3_4, q_g3_5, q_p3_5, q_g3_6, q_p3_6, q_g4_0, q_p4_0, q_g4_1, q_p4_1, q_g4_2, q_p4_2, q_g4_3, q_p4_3, q_g4_4, q_p4_4, q_g5_0, q_p5_0, q_g5_1, q_p5_1, q_g5_2, q_p5_2, q_g5_3, q_p5_3, q_g5_4, q_p5_4, q_g5_5, q_p5_5, q_g5_6, q_p5_6, q_g5_7, q_p5_7, q_g5_8, q_p5_8, q_g5_9, q_p5_9, q_g5_10, q_p5_10, q_g5_11, q_p5_11, q_g5_12, q_p5_12, q_g5_13, q_p5_13, q_g5_14, q_p5_14, q_g5_15, q_p5_15, a0, b1, e, a01, e2, a02, b12, hM3', e4]
end
