/-! the class's reading of its whole text, and what a command does -/
def synF (tx : Nat → Nat) (ln : Nat) : Nat → Nat → Option Nat
  | 0, _ => none
  | n + 1, a => if a < ln then (match cmdF tx ln a with
    | .inl p => some p
    | .inr (_, _, _, p) => synF tx ln n p) else none
def synI (o : Option Nat) : Int32 := match o with
  | some p => zN p
  | none => zM 0
theorem synF_l {tx : Nat → Nat} {ln n a p : Nat} (h : a < ln) (e : cmdF tx ln a = .inl p) : synF tx ln (n + 1) a = some p := by
  unfold synF
  rw [if_pos h, e]
theorem synF_r {tx : Nat → Nat} {ln n a f s m p : Nat} (h : a < ln) (e : cmdF tx ln a = .inr (f, s, m, p)) : synF tx ln (n + 1) a = synF tx ln n p := by
  rw [synF, if_pos h, e]
theorem synF_e {tx : Nat → Nat} {ln n a : Nat} (h : ¬ a < ln) : synF tx ln n a = none := by
  cases n with
  | zero => rfl
  | succ n => rw [synF, if_neg h]
theorem endF_f {tx : Nat → Nat} {ln a p : Nat} (h : endF tx ln a = .inl p) : a ≤ p ∧ p ≤ a + 2 := by
  unfold endF at h
  rcases hn : numF tx ln a with p0 | ⟨n0, p0⟩
  · rw [hn] at h
    have l := (numF_p (tx := tx) (ln := ln) (a := a)).1 p0 hn
    cases h
    exact l
  · rw [hn] at h
    dsimp only at h
    have l := (numF_p (tx := tx) (ln := ln) (a := a)).2 n0 p0 hn
    by_cases c : hit tx ln p0 59
    · rw [if_pos c] at h
      cases h
    · rw [if_neg c] at h
      cases h
      omega
theorem cmdF_f {tx : Nat → Nat} {ln a p : Nat} (h : cmdF tx ln a = .inl p) : a ≤ p ∧ p ≤ a + 6 := by
  unfold cmdF at h
  repeat' split at h
  all_goals first
    | (cases h; done)
    | (cases h; omega)
    | (rename_i g; have := endF_f g; cases h; omega)
/-- what is known of a command that was read -/
def cmOk (L f s n : Nat) : Prop := ((L = 108 ∨ L = 117) ∧ f < 8 ∧ s = 0 ∧ 1 ≤ n ∧ n ≤ 99) ∨ ((L = 109 ∨ L = 115 ∨ L = 118) ∧ f < 8 ∧ s < 8 ∧ 1 ≤ n ∧ n ≤ 99) ∨ (L = 114 ∧ f < 2 ∧ 1 ≤ n ∧ n ≤ 99) ∨ ((L = 116 ∨ L = 99) ∧ f < 2)
theorem cmdF_r {tx : Nat → Nat} {ln a f s n p : Nat} (h : cmdF tx ln a = .inr (f, s, n, p)) : cmOk (tx a) f s n := by
  unfold cmdF at h
  unfold cmOk
  split at h
  · rename_i c1
    split at h
    · rename_i c2
      split at h
      · rcases he : endF tx ln (a + 3) with p0 | ⟨n0, p0⟩
        · rw [he] at h
          cases h
        · rw [he] at h
          have l := endF_p he
          have := c2.2
          cases h
          left
          refine ⟨?_, by omega, rfl, by omega, by omega⟩
          rcases c1 with q | q
          · exact Or.inl q.2
          · exact Or.inr q.2
      · cases h
    · cases h
  · split at h
    · rename_i c1
      split at h
      · rename_i c2
        split at h
        · rename_i c3
          split at h
          · rcases he : endF tx ln (a + 4) with p0 | ⟨n0, p0⟩
            · rw [he] at h
              cases h
            · rw [he] at h
              have l := endF_p he
              have := c2.2
              have := c3.2
              cases h
              right; left
              refine ⟨?_, by omega, by omega, by omega, by omega⟩
              rcases c1 with q | q | q
              · exact Or.inl q.2
              · exact Or.inr (Or.inl q.2)
              · exact Or.inr (Or.inr q.2)
          · cases h
        · cases h
      · cases h
    · split at h
      · rename_i c1
        split at h
        · rename_i c2
          rcases he : endF tx ln (a + 2) with p0 | ⟨n0, p0⟩
          · rw [he] at h
            cases h
          · rw [he] at h
            have l := endF_p he
            have := c2.2
            cases h
            right; right; left
            exact ⟨c1.2, by omega, by omega, by omega⟩
        · cases h
      · split at h
        · rename_i c1
          split at h
          · rename_i c2
            split at h
            · have := c2.2
              cases h
              right; right; right
              refine ⟨?_, by omega⟩
              rcases c1 with q | q
              · exact Or.inl q.2
              · exact Or.inr q.2
            · cases h
          · cases h
        · cases h
def kOf (L : Nat) : Nat := if L = 108 then 0 else if L = 117 then 1 else if L = 109 then 2 else if L = 115 then 3 else 4
theorem kOf_le (L : Nat) : kOf L ≤ 4 := by
  unfold kOf
  repeat' split
  all_goals omega
/-- a command done; none where its call would throw -/
def obeyF (v : rw_) (L f s n : Nat) : Option rw_ :=
  if L = 114 then some (rpF v (164 + 21 * f) (min n (could v (164 + 21 * f))))
  else if L = 116 then (if v (164 + 21 * f + 1) = 1 then some (snF v (164 + 21 * f)) else none)
  else if L = 99 then some (crR v (164 + 21 * f))
  else if (2 ≤ kOf L ∧ f = s) ∨ v 0 ≤ v 2 - v 1 then none else some (wrR v (kOf L) f s n)
theorem ok_obey {v v' : rw_} {B L f s n : Nat} (hv : okV v B) (hc : cmOk L f s n) (h : obeyF v L f s n = some v') : okV v' (B + 1) := by
  unfold obeyF at h
  by_cases c1 : L = 114
  · rw [if_pos c1] at h
    cases h
    have hf : f < 2 := by
      rcases hc with q | q | q | q <;> omega
    exact okV_w (ok_rp hf hv (Nat.min_le_right _ _)) (by omega)
  · rw [if_neg c1] at h
    by_cases c2 : L = 116
    · rw [if_pos c2] at h
      have hf : f < 2 := by
        rcases hc with q | q | q | q <;> omega
      split at h
      · cases h
        exact okV_w (ok_sn hf hv) (by omega)
      · cases h
    · rw [if_neg c2] at h
      by_cases c3 : L = 99
      · rw [if_pos c3] at h
        have hf : f < 2 := by
          rcases hc with q | q | q | q <;> omega
        cases h
        exact okV_w (ok_cr hf hv) (by omega)
      · rw [if_neg c3] at h
        split at h
        · cases h
        · rename_i c4
          cases h
          have h8 : f < 8 ∧ s < 8 ∧ 1 ≤ n ∧ n ≤ 99 := by
            rcases hc with q | q | q | q <;> omega
          exact ok_wr hv (kOf_le L) h8.1 h8.2.1 h8.2.2.1 h8.2.2.2 (fun q1 q2 => c4 (Or.inl ⟨q1, q2⟩)) (by
            have : ¬ v 0 ≤ v 2 - v 1 := fun q => c4 (Or.inr q)
            omega)
section
variable {X : jX} {d : Nat} {M : jM} {h : jH} {ln : Nat} {tx : Nat → Nat} {Y : Nat → Int32}
theorem t_syn (b3 : ∀ j, j < ln → Y j = zN (tx j)) (hl : ln ≤ 100) (ht : ∀ j, j < ln → tx j < 128) : ∀ n k a (le fi se nu : Int32) (M : jM), k + n = 100 → a ≤ 100 → M 15 = .inr (3, [.int (zN ln), .ref 16, .int (zN a), .int le, .int fi, .int se, .int nu]) → M 16 = .inl (1, 100, .inl Y) →
    ∃ a' le' fi' se' nu', Rn X (d + 5) 53 6 [some (.ref 15), some (.int (zN k))] [] M h = some (.inl (some (.int (synI (synF tx ln n a)))), va_up M 15 (.inr (3, [.int (zN ln), .ref 16, .int a', .int le', .int fi', .int se', .int nu'])), h) := by
  intro n
  induction n with
  | zero =>
    intro k a le fi se nu M hk ha b1 b2
    have hk' : k = 100 := by omega
    subst hk'
    refine ⟨zN a, le, fi, se, nu, ?_⟩
    rw [va_eta b1]
    simp (disch := first | exact cs_0 | exact cs_1 _ | exact cs_2 _ _ | exact cs_3 _ _ _ | exact cs_4 _ _ _ _ | exact j_one_i _ | exact j_one_r _ | exact j_one_n | omega) only [e53_0, e53_1, e53_4, e53_5, e53_6, e53_7, e53_9, e53_12, e53_13, e53_16, e53_19, e53_20, e53_23, e53_26, e53_27, e53_30, e53_31, e53_34, e53_37, e53_38, q_k_v, q_k_n, q_k_x, q_kc_v, q_kc_n, q_kc_x, q_rc, q_eq_t, q_eq_f, q_eq_nm, q_eq_mn, q_eq_mt, q_eq_mf, q_lt_t, q_lt_f, q_lt_mn, q_lt_nm, q_le_t, q_le_f, q_le_mn, q_le_nm, q_ac_t, q_ac_f, q_dv_n, q_rm_n, q_ld_n, q_lB_n, q_lJ_n, q_st_n, q_sB_n, q_sJ_n, q_sQ_n, q_cp_n, zN_add, zN_mul, zN_sub, zN_subm, zM_sub, zN_and, va_up_self, va_up_ne, j_add0, j_addt, ne_eq, not_false_eq_true, not_true_eq_false, Nat.reduceAdd, Nat.reduceSub, Nat.reduceMul, Nat.reduceMod, Nat.reduceEqDiff, q_g0_0, q_p0_0, q_g0_1, q_p0_1, q_g0_2, q_p0_2, q_g0_3, q_p0_3, q_g0_4, q_p0_4, q_g0_5, q_p0_5, q_g0_6, q_p0_6, q_g0_7, q_p0_7, q_g1_0, q_p1_0, q_g1_1, q_p1_1, q_g1_2, q_p1_2, q_g1_3, q_p1_3, q_g1_4, q_p1_4, q_g1_5, q_p1_5, q_g1_6, q_p1_6, q_g2_0, q_p2_0, q_g2_1, q_p2_1, q_g2_2, q_p2_2, q_g2_3, q_p2_3, q_g3_0, q_p3_0, q_g3_1, q_p3_1, q_g3_2, q_p3_2, q_g3_3, q_p3_3, q_g3_4, q_p3_4, q_g3_5, q_p3_5, q_g3_6, q_p3_6, q_g4_0, q_p4_0, q_g4_1, q_p4_1, q_g4_2, q_p4_2, q_g4_3, q_p4_3, q_g4_4, q_p4_4, q_g5_0, q_p5_0, q_g5_1, q_p5_1, q_g5_2, q_p5_2, q_g5_3, q_p5_3, q_g5_4, q_p5_4, q_g5_5, q_p5_5, q_g5_6, q_p5_6, q_g5_7, q_p5_7, q_g5_8, q_p5_8, q_g5_9, q_p5_9, q_g5_10, q_p5_10, q_g5_11, q_p5_11, q_g5_12, q_p5_12, q_g5_13, q_p5_13, q_g5_14, q_p5_14, q_g5_15, q_p5_15, synF, synI]
  | succ n ih =>
    intro k a le fi se nu M hk ha b1 b2
    rw [e53_6]
    by_cases c : a < ln
    · obtain ⟨g1, g2⟩ := t_cmd (X := X) (d := d) (h := j_h0 h) b1 b2 b3 hl ht (a := a) (by omega)
      rcases hc : cmdF tx ln a with p | ⟨f, s, m, p⟩
      · obtain ⟨le', fi', se', nu', e⟩ := g1 p hc
        refine ⟨zN p, le', fi', se', nu', ?_⟩
        rw [synF_l c hc]
        simp (disch := first | exact cs_0 | exact cs_1 _ | exact cs_2 _ _ | exact cs_3 _ _ _ | exact cs_4 _ _ _ _ | exact j_one_i _ | exact j_one_r _ | exact j_one_n | omega) only [e53_0, e53_1, e53_4, e53_5, e53_7, e53_9, e53_12, e53_13, e53_16, e53_19, e53_20, e53_23, e53_26, e53_27, e53_30, e53_31, e53_34, e53_37, e53_38, e52_0, e52_1, e52_4, e52_5, e52_8, e52_11, e52_12, e52_15, e52_16, q_k_v, q_k_n, q_k_x, q_kc_v, q_kc_n, q_kc_x, q_rc, q_eq_t, q_eq_f, q_eq_nm, q_eq_mn, q_eq_mt, q_eq_mf, q_lt_t, q_lt_f, q_lt_mn, q_lt_nm, q_le_t, q_le_f, q_le_mn, q_le_nm, q_ac_t, q_ac_f, q_dv_n, q_rm_n, q_ld_n, q_lB_n, q_lJ_n, q_st_n, q_sB_n, q_sJ_n, q_sQ_n, q_cp_n, zN_add, zN_mul, zN_sub, zN_subm, zM_sub, zN_and, va_up_self, va_up_ne, j_add0, j_addt, ne_eq, not_false_eq_true, not_true_eq_false, Nat.reduceAdd, Nat.reduceSub, Nat.reduceMul, Nat.reduceMod, Nat.reduceEqDiff, q_g0_0, q_p0_0, q_g0_1, q_p0_1, q_g0_2, q_p0_2, q_g0_3, q_p0_3, q_g0_4, q_p0_4, q_g0_5, q_p0_5, q_g0_6, q_p0_6, q_g0_7, q_p0_7, q_g1_0, q_p1_0, q_g1_1, q_p1_1, q_g1_2, q_p1_2, q_g1_3, q_p1_3, q_g1_4, q_p1_4, q_g1_5, q_p1_5, q_g1_6, q_p1_6, q_g2_0, q_p2_0, q_g2_1, q_p2_1, q_g2_2, q_p2_2, q_g2_3, q_p2_3, q_g3_0, q_p3_0, q_g3_1, q_p3_1, q_g3_2, q_p3_2, q_g3_3, q_p3_3, q_g3_4, q_p3_4, q_g3_5, q_p3_5, q_g3_6, q_p3_6, q_g4_0, q_p4_0, q_g4_1, q_p4_1, q_g4_2, q_p4_2, q_g4_3, q_p4_3, q_g4_4, q_p4_4, q_g5_0, q_p5_0, q_g5_1, q_p5_1, q_g5_2, q_p5_2, q_g5_3, q_p5_3, q_g5_4, q_p5_4, q_g5_5, q_p5_5, q_g5_6, q_p5_6, q_g5_7, q_p5_7, q_g5_8, q_p5_8, q_g5_9, q_p5_9, q_g5_10, q_p5_10, q_g5_11, q_p5_11, q_g5_12, q_p5_12, q_g5_13, q_p5_13, q_g5_14, q_p5_14, q_g5_15, q_p5_15, b1, e, synI]
      · obtain ⟨nu', e, -⟩ := g2 f s m p hc
        have l := cmdF_p hc
        obtain ⟨a2, le2, fi2, se2, nu2, e2⟩ := ih (k + 1) p (zN (tx a)) (zN f) (zN s) nu' (va_up M 15 (.inr (3, [.int (zN ln), .ref 16, .int (zN p), .int (zN (tx a)), .int (zN f), .int (zN s), .int nu']))) (by omega) (by omega) (va_up_self _ _ _) ((va_up_ne _ _ (by omega)).trans b2)
        rw [vu_up] at e2
        refine ⟨a2, le2, fi2, se2, nu2, ?_⟩
        rw [synF_r c hc]
        simp (disch := first | exact cs_0 | exact cs_1 _ | exact cs_2 _ _ | exact cs_3 _ _ _ | exact cs_4 _ _ _ _ | exact j_one_i _ | exact j_one_r _ | exact j_one_n | omega) only [e53_0, e53_1, e53_4, e53_5, e53_7, e53_9, e53_12, e53_13, e53_16, e53_19, e53_20, e53_23, e53_26, e53_27, e53_30, e53_31, e53_34, e53_37, e53_38, e52_0, e52_1, e52_4, e52_5, e52_8, e52_11, e52_12, e52_15, e52_16, q_k_v, q_k_n, q_k_x, q_kc_v, q_kc_n, q_kc_x, q_rc, q_eq_t, q_eq_f, q_eq_nm, q_eq_mn, q_eq_mt, q_eq_mf, q_lt_t, q_lt_f, q_lt_mn, q_lt_nm, q_le_t, q_le_f, q_le_mn, q_le_nm, q_ac_t, q_ac_f, q_dv_n, q_rm_n, q_ld_n, q_lB_n, q_lJ_n, q_st_n, q_sB_n, q_sJ_n, q_sQ_n, q_cp_n, zN_add, zN_mul, zN_sub, zN_subm, zM_sub, zN_and, va_up_self, va_up_ne, j_add0, j_addt, ne_eq, not_false_eq_true, not_true_eq_false, Nat.reduceAdd, Nat.reduceSub, Nat.reduceMul, Nat.reduceMod, Nat.reduceEqDiff, q_g0_0, q_p0_0, q_g0_1, q_p0_1, q_g0_2, q_p0_2, q_g0_3, q_p0_3, q_g0_4, q_p0_4, q_g0_5, q_p0_5, q_g0_6, q_p0_6, q_g0_7, q_p0_7, q_g1_0, q_p1_0, q_g1_1, q_p1_1, q_g1_2, q_p1_2, q_g1_3, q_p1_3, q_g1_4, q_p1_4, q_g1_5, q_p1_5, q_g1_6, q_p1_6, q_g2_0, q_p2_0, q_g2_1, q_p2_1, q_g2_2, q_p2_2, q_g2_3, q_p2_3, q_g3_0, q_p3_0, q_g3_1, q_p3_1, q_g3_2, q_p3_2, q_g3_3, q_p3_3, q_g3_4, q_p3_4, q_g3_5, q_p3_5, q_g3_6, q_p3_6, q_g4_0, q_p4_0, q_g4_1, q_p4_1, q_g4_2, q_p4_2, q_g4_3, q_p4_3, q_g4_4, q_p4_4, q_g5_0, q_p5_0, q_g5_1, q_p5_1, q_g5_2, q_p5_2, q_g5_3, q_p5_3, q_g5_4, q_p5_4, q_g5_5, q_p5_5, q_g5_6, q_p5_6, q_g5_7, q_p5_7, q_g5_8, q_p5_8, q_g5_9, q_p5_9, q_g5_10, q_p5_10, q_g5_11, q_p5_11, q_g5_12, q_p5_12, q_g5_13, q_p5_13, q_g5_14, q_p5_14, q_g5_15, q_p5_15, b1, e, e2]
    · refine ⟨zN a, le, fi, se, nu, ?_⟩
      rw [va_eta b1, synF_e c]
      simp (disch := first | exact cs_0 | exact cs_1 _ | exact cs_2 _ _ | exact cs_3 _ _ _ | exact cs_4 _ _ _ _ | exact j_one_i _ | exact j_one_r _ | exact j_one_n | omega) only [e53_0, e53_1, e53_4, e53_5, e53_7, e53_9, e53_12, e53_13, e53_16, e53_19, e53_20, e53_23, e53_26, e53_27, e53_30, e53_31, e53_34, e53_37, e53_38, e52_0, e52_1, e52_4, e52_5, e52_8, e52_11, e52_12, e52_15, e52_16, q_k_v, q_k_n, q_k_x, q_kc_v, q_kc_n, q_kc_x, q_rc, q_eq_t, q_eq_f, q_eq_nm, q_eq_mn, q_eq_mt, q_eq_mf, q_lt_t, q_lt_f, q_lt_mn, q_lt_nm, q_le_t, q_le_f, q_le_mn, q_le_nm, q_ac_t, q_ac_f, q_dv_n, q_rm_n, q_ld_n, q_lB_n, q_lJ_n, q_st_n, q_sB_n, q_sJ_n, q_sQ_n, q_cp_n, zN_add, zN_mul, zN_sub, zN_subm, zM_sub, zN_and, va_up_self, va_up_ne, j_add0, j_addt, ne_eq, not_false_eq_true, not_true_eq_false, Nat.reduceAdd, Nat.reduceSub, Nat.reduceMul, Nat.reduceMod, Nat.reduceEqDiff, q_g0_0, q_p0_0, q_g0_1, q_p0_1, q_g0_2, q_p0_2, q_g0_3, q_p0_3, q_g0_4, q_p0_4, q_g0_5, q_p0_5, q_g0_6, q_p0_6, q_g0_7, q_p0_7, q_g1_0, q_p1_0, q_g1_1, q_p1_1, q_g1_2, q_p1_2, q_g1_3, q_p1_3, q_g1_4, q_p1_4, q_g1_5, q_p1_5, q_g1_6, q_p1_6, q_g2_0, q_p2_0, q_g2_1, q_p2_1, q_g2_2, q_p2_2, q_g2_3, q_p2_3, q_g3_0, q_p3_0, q_g3_1, q_p3_1, q_g3_2, q_p3_2, q_g3_3, q_p3_3, q_g3_4, q_p3_4, q_g3_5, q_p3_5, q_g3_6, q_p3_6, q_g4_0, q_p4_0, q_g4_1, q_p4_1, q_g4_2, q_p4_2, q_g4_3, q_p4_3, q_g4_4, q_p4_4, q_g5_0, q_p5_0, q_g5_1, q_p5_1, q_g5_2, q_p5_2, q_g5_3, q_p5_3, q_g5_4, q_p5_4, q_g5_5, q_p5_5, q_g5_6, q_p5_6, q_g5_7, q_p5_7, q_g5_8, q_p5_8, q_g5_9, q_p5_9, q_g5_10, q_p5_10, q_g5_11, q_p5_11, q_g5_12, q_p5_12, q_g5_13, q_p5_13, q_g5_14, q_p5_14, q_g5_15, q_p5_15, b1, synI]
theorem t_synF (b3 : ∀ j, j < ln → Y j = zN (tx j)) (hl : ln ≤ 100) (ht : ∀ j, j < ln → tx j < 128) {a le fi se nu : Int32} {er : Option Value} (b1 : M 15 = .inr (3, [.int (zN ln), .ref 16, .int a, .int le, .int fi, .int se, .int nu])) (b2 : M 16 = .inl (1, 100, .inl Y)) :
    ∃ a' le' fi' se' nu', Rn X (d + 5) 53 0 [some (.ref 15), er] [] M h = some (.inl (some (.int (synI (synF tx ln 100 0)))), va_up M 15 (.inr (3, [.int (zN ln), .ref 16, .int a', .int le', .int fi', .int se', .int nu'])), h) := by
  obtain ⟨a2, le2, fi2, se2, nu2, e2⟩ := t_syn (X := X) (d := d) (h := h) b3 hl ht 100 0 0 le fi se nu (va_up M 15 (.inr (3, [.int (zN ln), .ref 16, .int (zN 0), .int le, .int fi, .int se, .int nu]))) (by omega) (by omega) (va_up_self _ _ _) ((va_up_ne _ _ (by omega)).trans b2)
  rw [vu_up] at e2
  refine ⟨a2, le2, fi2, se2, nu2, ?_⟩
  simp (disch := first | exact cs_0 | exact cs_1 _ | exact cs_2 _ _ | exact cs_3 _ _ _ | exact cs_4 _ _ _ _ | exact j_one_i _ | exact j_one_r _ | exact j_one_n | omega) only [e53_0, e53_1, e53_4, e53_5, e53_7, e53_9, e53_12, e53_13, e53_16, e53_19, e53_20, e53_23, e53_26, e53_27, e53_30, e53_31, e53_34, e53_37, e53_38, e51_0, e51_1, e51_2, e51_5, q_k_v, q_k_n, q_k_x, q_kc_v, q_kc_n, q_kc_x, q_rc, q_eq_t, q_eq_f, q_eq_nm, q_eq_mn, q_eq_mt, q_eq_mf, q_lt_t, q_lt_f, q_lt_mn, q_lt_nm, q_le_t, q_le_f, q_le_mn, q_le_nm, q_ac_t, q_ac_f, q_dv_n, q_rm_n, q_ld_n, q_lB_n, q_lJ_n, q_st_n, q_sB_n, q_sJ_n, q_sQ_n, q_cp_n, zN_add, zN_mul, zN_sub, zN_subm, zM_sub, zN_and, va_up_self, va_up_ne, j_add0, j_addt, ne_eq, not_false_eq_true, not_true_eq_false, Nat.reduceAdd, Nat.reduceSub, Nat.reduceMul, Nat.reduceMod, Nat.reduceEqDiff, q_g0_0, q_p0_0, q_g0_1, q_p0_1, q_g0_2, q_p0_2, q_g0_3, q_p0_3, q_g0_4, q_p0_4, q_g0_5, q_p0_5, q_g0_6, q_p0_6, q_g0_7, q_p0_7, q_g1_0, q_p1_0, q_g1_1, q_p1_1, q_g1_2, q_p1_2, q_g1_3, q_p1_3, q_g1_4, q_p1_4, q_g1_5, q_p1_5, q_g1_6, q_p1_6, q_g2_0, q_p2_0, q_g2_1, q_p2_1, q_g2_2, q_p2_2, q_g2_3, q_p2_3, q_g3_0, q_p3_0, q_g3_1, q_p3_1, q_g3_2, q_p3_2, q_g3_3, q_p3_3, q_g3_4, q_p3_4, q_g3_5, q_p3_5, q_g3_6, q_p3_6, q_g4_0, q_p4_0, q_g4_1, q_p4_1, q_g4_2, q_p4_2, q_g4_3, q_p4_3, q_g4_4, q_p4_4, q_g5_0, q_p5_0, q_g5_1, q_p5_1, q_g5_2, q_p5_2, q_g5_3, q_p5_3, q_g5_4, q_p5_4, q_g5_5, q_p5_5, q_g5_6, q_p5_6, q_g5_7, q_p5_7, q_g5_8, q_p5_8, q_g5_9, q_p5_9, q_g5_10, q_p5_10, q_g5_11, q_p5_11, q_g5_12, q_p5_12, q_g5_13, q_p5_13, q_g5_14, q_p5_14, q_g5_15, q_p5_15, b1, e2]
end
