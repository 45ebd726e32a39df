/-! the class's object at cell 0: its state now and what it has saved -/
def isJ (M : jM) (v : rw_) (cnt : Nat) (u : Nat → rw_) : Prop := ∃ (tau : Nat → Nat) (S : Nat → Option Nat), M 0 = .inr (4, [.ref 1, .ref 14, .int (zN cnt), .ref 15, .ref 17]) ∧ M 14 = .inl (2, 4, .inr (.inr (.inr (.inr S)))) ∧ (∀ k, k < 4 → S k = some (18 + 13 * tau k) ∧ tau k < 4) ∧ (∀ i j, i < 4 → j < 4 → tau i = tau j → i = j) ∧ isSt M 1 v ∧ (∀ k, k < 4 → isSt M (18 + 13 * tau k) (u k)) ∧ cnt ≤ 4
def svU (u : Nat → rw_) (cnt : Nat) (v : rw_) : Nat → rw_ := if cnt < 4 then va_up u cnt v else fun k => if k < 3 then u (k + 1) else v
def svC (cnt : Nat) : Nat := if cnt < 4 then cnt + 1 else 4
theorem svC_le (cnt : Nat) : svC cnt ≤ 4 := by
  unfold svC
  split <;> omega
/-- the state now has changed -/
theorem isJ_now {M M' : jM} {v v' : rw_} {cnt : Nat} {u : Nat → rw_} (h : isJ M v cnt u) (h1 : isSt M' 1 v') (hm : sm M M' 1 14) : isJ M' v' cnt u := by
  obtain ⟨tau, S, a0, a1, a2, a3, a4, a5, a6⟩ := h
  exact ⟨tau, S, by rw [hm _ (by omega), a0], by rw [hm _ (by omega), a1], a2, a3, h1, fun k hk => isSt_fr (a5 k hk) fun a q1 q2 => hm a (by omega), a6⟩
/-- only the text and the forecast have changed -/
theorem isJ_fr {M M' : jM} {v : rw_} {cnt : Nat} {u : Nat → rw_} (h : isJ M v cnt u) (hm : ∀ a, a < 15 ∨ (18 ≤ a ∧ a < 70) → M' a = M a) : isJ M' v cnt u := by
  obtain ⟨tau, S, a0, a1, a2, a3, a4, a5, a6⟩ := h
  exact ⟨tau, S, by rw [hm _ (by omega), a0], by rw [hm _ (by omega), a1], a2, a3, isSt_fr a4 fun a q1 q2 => hm a (by omega), fun k hk => isSt_fr (a5 k hk) fun a q1 q2 => hm a (by have := (a2 k hk).2; omega), a6⟩
theorem q_lQ_o {X : jX} {d i pc z j : Nat} {LS : jL} {ST : List Value} {M : jM} {h : jH} {f : Nat → Option Nat} (h1 : j < z) (h2 : z < 2147483648) : q_lQ X (.inl (2, z, .inr (.inr (.inr (.inr f))))) (zN j) d i pc LS ST M h = (f j).bind fun v => Rn X d i pc LS (.ref v :: ST) M h := by
  show j_c (2 = 2 ∧ j_in (zN j) z) ((f (zN j).toNatClampNeg).bind _) = _
  rw [j_ct ⟨rfl, zN_in (by omega) h1⟩, zN_nat (by omega)]
theorem q_ro_s {α β : Type} {a : α} {f : α → Option β} : (some a).bind f = f a := rfl
section
variable {X : jX} {d : Nat} {M : jM} {h : jH}
theorem t_save {v : rw_} {cnt : Nat} {u : Nat → rw_} (hJ : isJ M v cnt u) (l1 : v 165 < 2) (l2 : v 186 < 2) :
    ∃ M', Rn X (d + 3) 96 0 [some (.ref 0), none, none] [] M h = some (.inl none, M', h) ∧ isJ M' v (svC cnt) (svU u cnt v) ∧ (∀ a, 15 ≤ a → a < 18 → M' a = M a) ∧ sm M M' 0 70 := by
  obtain ⟨tau, S, a0, a1, a2, a3, a4, a5, a6⟩ := hJ
  have n0 := a4.1
  by_cases c : cnt < 4
  · have hc := a2 cnt c
    obtain ⟨M1, e1, r1, s1⟩ := t_stCopy (X := X) (d := d) (h := j_h0 h) (a5 cnt c) a4 (by omega) l1 l2
    have b0 := (s1 0 (by omega)).trans a0
    have c0 := (a5 cnt c).1
    refine ⟨va_up M1 0 (.inr (4, [.ref 1, .ref 14, .int (zN (cnt + 1)), .ref 15, .ref 17])), ?_, ?_, ?_, ?_⟩
    · simp (disch := first | exact cs_0 | exact cs_1 _ | exact cs_2 _ _ | exact cs_3 _ _ _ | exact cs_4 _ _ _ _ | exact j_one_i _ | exact j_one_r _ | exact j_one_n | omega) only [e96_0, e96_1, e96_4, e96_5, e96_8, e96_9, e96_12, e96_13, e96_14, e96_15, e96_16, e96_17, e96_18, e96_19, e96_22, e96_23, e96_26, e96_27, e96_28, e96_29, e96_30, e96_33, e96_34, e96_35, e96_36, e96_39, e96_42, e96_43, e96_46, e96_47, e96_48, e96_49, e96_50, e96_51, e96_54, e96_55, e96_58, e96_59, e96_62, e96_63, e96_64, e96_67, e96_70, e96_71, e96_71r, e96_72, e96_75, e96_76, e96_77, e96_80, q_k_v, q_k_n, q_k_x, q_kc_v, q_kc_n, q_kc_x, q_rc, q_eq_t, q_eq_f, q_eq_nm, q_eq_mn, q_eq_mt, q_eq_mf, q_lt_t, q_lt_f, q_lt_mn, q_lt_nm, q_le_t, q_le_f, q_le_mn, q_le_nm, q_ac_t, q_ac_f, q_dv_n, q_rm_n, q_ld_n, q_lB_n, q_lJ_n, q_st_n, q_sB_n, q_sJ_n, q_sQ_n, q_cp_n, zN_add, zN_mul, zN_sub, zN_subm, zM_sub, zN_and, va_up_self, va_up_ne, j_add0, j_addt, ne_eq, not_false_eq_true, not_true_eq_false, Nat.reduceAdd, Nat.reduceSub, Nat.reduceMul, Nat.reduceMod, Nat.reduceEqDiff, q_g0_0, q_p0_0, q_g0_1, q_p0_1, q_g0_2, q_p0_2, q_g0_3, q_p0_3, q_g0_4, q_p0_4, q_g0_5, q_p0_5, q_g0_6, q_p0_6, q_g0_7, q_p0_7, q_g1_0, q_p1_0, q_g1_1, q_p1_1, q_g1_2, q_p1_2, q_g1_3, q_p1_3, q_g1_4, q_p1_4, q_g1_5, q_p1_5, q_g1_6, q_p1_6, q_g2_0, q_p2_0, q_g2_1, q_p2_1, q_g2_2, q_p2_2, q_g2_3, q_p2_3, q_g3_0, q_p3_0, q_g3_1, q_p3_1, q_g3_2, q_p3_2, q_g3_3, q_p3_3, q_g3_4, q_p3_4, q_g3_5, q_p3_5, q_g3_6, q_p3_6, q_g4_0, q_p4_0, q_g4_1, q_p4_1, q_g4_2, q_p4_2, q_g4_3, q_p4_3, q_g4_4, q_p4_4, q_g5_0, q_p5_0, q_g5_1, q_p5_1, q_g5_2, q_p5_2, q_g5_3, q_p5_3, q_g5_4, q_p5_4, q_g5_5, q_p5_5, q_g5_6, q_p5_6, q_g5_7, q_p5_7, q_g5_8, q_p5_8, q_g5_9, q_p5_9, q_g5_10, q_p5_10, q_g5_11, q_p5_11, q_g5_12, q_p5_12, q_g5_13, q_p5_13, q_g5_14, q_p5_14, q_g5_15, q_p5_15, q_lQ_o, q_ro_s, a0, a1, hc.1, n0, c0, e1, b0]
    · unfold svC svU
      rw [if_pos c, if_pos c]
      refine ⟨tau, S, va_up_self _ _ _, ?_, a2, a3, ?_, ?_, by omega⟩
      · rw [va_up_ne _ _ (by omega), s1 _ (by omega), a1]
      · exact isSt_fr (isSt_fr a4 fun a q1 q2 => s1 a (by omega)) fun a q1 q2 => va_up_ne _ _ (by omega)
      · intro k hk
        by_cases ck : k = cnt
        · rw [ck, va_up_self]
          exact isSt_fr r1 fun a q1 q2 => va_up_ne _ _ (by omega)
        · rw [va_up_ne _ _ ck]
          have : tau k ≠ tau cnt := fun e => ck (a3 k cnt hk c e)
          exact isSt_fr (isSt_fr (a5 k hk) fun a q1 q2 => s1 a (by omega)) fun a q1 q2 => va_up_ne _ _ (by omega)
    · intro a q1 q2
      rw [va_up_ne _ _ (by omega), s1 a (by omega)]
    · intro a q
      rw [va_up_ne _ _ (by omega), s1 a (by omega)]
  · have hc : cnt = 4 := by omega
    subst hc
    have t0 := a2 0 (by omega)
    have t1 := a2 1 (by omega)
    have t2 := a2 2 (by omega)
    have t3 := a2 3 (by omega)
    have c0 := (a5 0 (by omega)).1
    have c1 := (a5 1 (by omega)).1
    have c2 := (a5 2 (by omega)).1
    have c3 := (a5 3 (by omega)).1
    obtain ⟨S', eS⟩ : ∃ S', S' = va_up (va_up (va_up (va_up S 0 (some (18 + 13 * tau 1))) 1 (some (18 + 13 * tau 2))) 2 (some (18 + 13 * tau 3))) 3 (some (18 + 13 * tau 0)) := ⟨_, rfl⟩
    obtain ⟨M2, hM2⟩ : ∃ M2, M2 = va_up (va_up M 14 (.inl (2, 4, .inr (.inr (.inr (.inr S')))))) 0 (.inr (4, [.ref 1, .ref 14, .int (zN 3), .ref 15, .ref 17])) := ⟨_, rfl⟩
    have s2 : ∀ a, a ≠ 0 → a ≠ 14 → M2 a = M a := fun a q1 q2 => by rw [hM2, va_up_ne _ _ q1, va_up_ne _ _ q2]
    obtain ⟨M1, e1, r1, s1⟩ := t_stCopy (X := X) (d := d) (h := j_h0 h) (M := M2) (isSt_fr (a5 0 (by omega)) fun a q1 q2 => s2 a (by omega) (by omega)) (isSt_fr a4 fun a q1 q2 => s2 a (by omega) (by omega)) (by omega) l1 l2
    have n2 := (s2 1 (by omega) (by omega)).trans n0
    have b2 : M2 0 = .inr (4, [.ref 1, .ref 14, .int (zN 3), .ref 15, .ref 17]) := by rw [hM2, va_up_self]
    have b3 : M2 14 = .inl (2, 4, .inr (.inr (.inr (.inr S')))) := by rw [hM2, va_up_ne _ _ (by omega), va_up_self]
    have b0 := (s1 0 (by omega)).trans b2
    have S3 : S' 3 = some (18 + 13 * tau 0) := by rw [eS, va_up_self]
    have d0 := (s2 (18 + 13 * tau 0) (by omega) (by omega)).trans c0
    refine ⟨va_up M1 0 (.inr (4, [.ref 1, .ref 14, .int (zN 4), .ref 15, .ref 17])), ?_, ?_, ?_, ?_⟩
    · have hM2' := hM2.symm
      rw [eS] at hM2'
      rw [eS] at b3 S3
      simp (disch := first | exact cs_0 | exact cs_1 _ | exact cs_2 _ _ | exact cs_3 _ _ _ | exact cs_4 _ _ _ _ | exact j_one_i _ | exact j_one_r _ | exact j_one_n | omega) only [e96_0, e96_1, e96_4, e96_5, e96_8, e96_9, e96_12, e96_13, e96_14, e96_15, e96_16, e96_17, e96_18, e96_19, e96_22, e96_23, e96_26, e96_27, e96_28, e96_29, e96_30, e96_33, e96_34, e96_35, e96_36, e96_39, e96_42, e96_43, e96_46, e96_47, e96_48, e96_49, e96_50, e96_51, e96_55, e96_58, e96_59, e96_62, e96_63, e96_64, e96_67, e96_70, e96_71, e96_71r, e96_72, e96_75, e96_76, e96_77, e96_80, q_k_v, q_k_n, q_k_x, q_kc_v, q_kc_n, q_kc_x, q_rc, q_eq_t, q_eq_f, q_eq_nm, q_eq_mn, q_eq_mt, q_eq_mf, q_lt_t, q_lt_f, q_lt_mn, q_lt_nm, q_le_t, q_le_f, q_le_mn, q_le_nm, q_ac_t, q_ac_f, q_dv_n, q_rm_n, q_ld_n, q_lB_n, q_lJ_n, q_st_n, q_sB_n, q_sJ_n, q_sQ_n, q_cp_n, zN_add, zN_mul, zN_sub, zN_subm, zM_sub, zN_and, va_up_self, va_up_ne, j_add0, j_addt, ne_eq, not_false_eq_true, not_true_eq_false, Nat.reduceAdd, Nat.reduceSub, Nat.reduceMul, Nat.reduceMod, Nat.reduceEqDiff, q_g0_0, q_p0_0, q_g0_1, q_p0_1, q_g0_2, q_p0_2, q_g0_3, q_p0_3, q_g0_4, q_p0_4, q_g0_5, q_p0_5, q_g0_6, q_p0_6, q_g0_7, q_p0_7, q_g1_0, q_p1_0, q_g1_1, q_p1_1, q_g1_2, q_p1_2, q_g1_3, q_p1_3, q_g1_4, q_p1_4, q_g1_5, q_p1_5, q_g1_6, q_p1_6, q_g2_0, q_p2_0, q_g2_1, q_p2_1, q_g2_2, q_p2_2, q_g2_3, q_p2_3, q_g3_0, q_p3_0, q_g3_1, q_p3_1, q_g3_2, q_p3_2, q_g3_3, q_p3_3, q_g3_4, q_p3_4, q_g3_5, q_p3_5, q_g3_6, q_p3_6, q_g4_0, q_p4_0, q_g4_1, q_p4_1, q_g4_2, q_p4_2, q_g4_3, q_p4_3, q_g4_4, q_p4_4, q_g5_0, q_p5_0, q_g5_1, q_p5_1, q_g5_2, q_p5_2, q_g5_3, q_p5_3, q_g5_4, q_p5_4, q_g5_5, q_p5_5, q_g5_6, q_p5_6, q_g5_7, q_p5_7, q_g5_8, q_p5_8, q_g5_9, q_p5_9, q_g5_10, q_p5_10, q_g5_11, q_p5_11, q_g5_12, q_p5_12, q_g5_13, q_p5_13, q_g5_14, q_p5_14, q_g5_15, q_p5_15, q_lQ_o, q_ro_s, a0, a1, t0.1, t1.1, t2.1, t3.1, c0, c1, c2, c3, vu_up]
      rw [hM2']
      simp (disch := first | exact cs_0 | exact cs_1 _ | exact cs_2 _ _ | exact cs_3 _ _ _ | exact cs_4 _ _ _ _ | exact j_one_i _ | exact j_one_r _ | exact j_one_n | omega) only [e96_0, e96_1, e96_4, e96_5, e96_8, e96_9, e96_12, e96_13, e96_14, e96_15, e96_16, e96_17, e96_18, e96_19, e96_22, e96_23, e96_26, e96_27, e96_28, e96_29, e96_30, e96_33, e96_34, e96_35, e96_36, e96_39, e96_42, e96_43, e96_46, e96_47, e96_48, e96_49, e96_50, e96_51, e96_54, e96_55, e96_58, e96_59, e96_62, e96_63, e96_64, e96_67, e96_70, e96_71, e96_71r, e96_72, e96_75, e96_76, e96_77, e96_80, q_k_v, q_k_n, q_k_x, q_kc_v, q_kc_n, q_kc_x, q_rc, q_eq_t, q_eq_f, q_eq_nm, q_eq_mn, q_eq_mt, q_eq_mf, q_lt_t, q_lt_f, q_lt_mn, q_lt_nm, q_le_t, q_le_f, q_le_mn, q_le_nm, q_ac_t, q_ac_f, q_dv_n, q_rm_n, q_ld_n, q_lB_n, q_lJ_n, q_st_n, q_sB_n, q_sJ_n, q_sQ_n, q_cp_n, zN_add, zN_mul, zN_sub, zN_subm, zM_sub, zN_and, va_up_self, va_up_ne, j_add0, j_addt, ne_eq, not_false_eq_true, not_true_eq_false, Nat.reduceAdd, Nat.reduceSub, Nat.reduceMul, Nat.reduceMod, Nat.reduceEqDiff, q_g0_0, q_p0_0, q_g0_1, q_p0_1, q_g0_2, q_p0_2, q_g0_3, q_p0_3, q_g0_4, q_p0_4, q_g0_5, q_p0_5, q_g0_6, q_p0_6, q_g0_7, q_p0_7, q_g1_0, q_p1_0, q_g1_1, q_p1_1, q_g1_2, q_p1_2, q_g1_3, q_p1_3, q_g1_4, q_p1_4, q_g1_5, q_p1_5, q_g1_6, q_p1_6, q_g2_0, q_p2_0, q_g2_1, q_p2_1, q_g2_2, q_p2_2, q_g2_3, q_p2_3, q_g3_0, q_p3_0, q_g3_1, q_p3_1, q_g3_2, q_p3_2, q_g3_3, q_p3_3, q_g3_4, q_p3_4, q_g3_5, q_p3_5, q_g3_6, q_p3_6, q_g4_0, q_p4_0, q_g4_1, q_p4_1, q_g4_2, q_p4_2, q_g4_3, q_p4_3, q_g4_4, q_p4_4, q_g5_0, q_p5_0, q_g5_1, q_p5_1, q_g5_2, q_p5_2, q_g5_3, q_p5_3, q_g5_4, q_p5_4, q_g5_5, q_p5_5, q_g5_6, q_p5_6, q_g5_7, q_p5_7, q_g5_8, q_p5_8, q_g5_9, q_p5_9, q_g5_10, q_p5_10, q_g5_11, q_p5_11, q_g5_12, q_p5_12, q_g5_13, q_p5_13, q_g5_14, q_p5_14, q_g5_15, q_p5_15, q_lQ_o, q_ro_s, b2, b3, n2, d0, e1, b0]
    · unfold svC svU
      rw [if_neg c, if_neg c]
      refine ⟨fun k => if k < 3 then tau (k + 1) else tau 0, S', va_up_self _ _ _, ?_, ?_, ?_, ?_, ?_, by omega⟩
      · rw [va_up_ne _ _ (by omega), s1 _ (by omega), b3]
      · intro k hk
        rw [eS]
        obtain rfl | rfl | rfl | rfl : k = 0 ∨ k = 1 ∨ k = 2 ∨ k = 3 := by omega
        · exact ⟨by simp (disch := first | exact cs_0 | exact cs_1 _ | exact cs_2 _ _ | exact cs_3 _ _ _ | exact cs_4 _ _ _ _ | exact j_one_i _ | exact j_one_r _ | exact j_one_n | omega) only [va_up_self, va_up_ne]; rfl, t1.2⟩
        · exact ⟨by simp (disch := first | exact cs_0 | exact cs_1 _ | exact cs_2 _ _ | exact cs_3 _ _ _ | exact cs_4 _ _ _ _ | exact j_one_i _ | exact j_one_r _ | exact j_one_n | omega) only [va_up_self, va_up_ne]; rfl, t2.2⟩
        · exact ⟨by simp (disch := first | exact cs_0 | exact cs_1 _ | exact cs_2 _ _ | exact cs_3 _ _ _ | exact cs_4 _ _ _ _ | exact j_one_i _ | exact j_one_r _ | exact j_one_n | omega) only [va_up_self, va_up_ne]; rfl, t3.2⟩
        · exact ⟨by simp (disch := first | exact cs_0 | exact cs_1 _ | exact cs_2 _ _ | exact cs_3 _ _ _ | exact cs_4 _ _ _ _ | exact j_one_i _ | exact j_one_r _ | exact j_one_n | omega) only [va_up_self, va_up_ne]; rfl, t0.2⟩
      · intro i j hi hj e
        dsimp only at e
        by_cases ci : i < 3
        · rw [if_pos ci] at e
          by_cases cj : j < 3
          · rw [if_pos cj] at e
            have := a3 _ _ (by omega) (by omega) e
            omega
          · rw [if_neg cj] at e
            have := a3 _ _ (by omega) (by omega) e
            omega
        · rw [if_neg ci] at e
          by_cases cj : j < 3
          · rw [if_pos cj] at e
            have := a3 _ _ (by omega) (by omega) e
            omega
          · omega
      · exact isSt_fr (isSt_fr (isSt_fr a4 fun a q1 q2 => s2 a (by omega) (by omega)) fun a q1 q2 => s1 a (by omega)) fun a q1 q2 => va_up_ne _ _ (by omega)
      · intro k hk
        dsimp only
        by_cases ck : k < 3
        · rw [if_pos ck, if_pos ck]
          have : tau (k + 1) ≠ tau 0 := fun e => by
            have := a3 _ _ (by omega) (by omega) e
            omega
          exact isSt_fr (isSt_fr (isSt_fr (a5 (k + 1) (by omega)) fun a q1 q2 => s2 a (by omega) (by omega)) fun a q1 q2 => s1 a (by omega)) fun a q1 q2 => va_up_ne _ _ (by omega)
        · rw [if_neg ck, if_neg ck]
          exact isSt_fr r1 fun a q1 q2 => va_up_ne _ _ (by omega)
    · intro a q1 q2
      rw [va_up_ne _ _ (by omega), s1 a (by omega), s2 a (by omega) (by omega)]
    · intro a q
      rw [va_up_ne _ _ (by omega), s1 a (by omega), s2 a (by omega) (by omega)]
end
