/-! the reference: one command read -/
theorem lu_spec {tx : Nat → Nat} {ln a a4 L : Nat} {o : Option Nat} (hL : L = 108 ∨ L = 117) (hh : hit tx ln a L) (h4 : ∀ n p, numF tx ln (a + 3) = .inr (n, p) → a4 = p) :
    (∀ p, cmdF tx ln a = .inl p → sg (hit tx ln a4 59) (nmO tx ln (sg (hit tx ln (a + 2) 44) (sg (dig tx ln (a + 1) 8) o (a + 1)) (a + 2)) (a + 3)) a4 = wr o p) ∧ (∀ f s n p, cmdF tx ln a = .inr (f, s, n, p) → sg (hit tx ln a4 59) (nmO tx ln (sg (hit tx ln (a + 2) 44) (sg (dig tx ln (a + 1) 8) o (a + 1)) (a + 2)) (a + 3)) a4 = o ∧ a4 + 1 = p ∧ dig tx ln (a + 1) 8 ∧ f = tx (a + 1) - 48 ∧ s = 0 ∧ numF tx ln (a + 3) = .inr (n, a4)) := by
  have ec : cmdF tx ln a = if dig tx ln (a + 1) 8 then
      if hit tx ln (a + 2) 44 then match endF tx ln (a + 3) with
        | .inl p => .inl p
        | .inr (n, p) => .inr (tx (a + 1) - 48, 0, n, p)
      else .inl (a + 2)
    else .inl (a + 1) := by
    unfold cmdF
    rw [if_pos (by
      rcases hL with rfl | rfl
      · exact Or.inl hh
      · exact Or.inr hh)]
    rfl
  rw [ec]
  by_cases c1 : dig tx ln (a + 1) 8
  · rw [if_pos c1, sg_t c1]
    by_cases c2 : hit tx ln (a + 2) 44
    · rw [if_pos c2, sg_t c2]
      unfold nmO endF
      rcases hn : numF tx ln (a + 3) with p0 | ⟨n0, p0⟩
      · dsimp only
        refine ⟨fun p hp => ?_, (fun f s n p hp => by cases hp)⟩
        cases hp
        exact sg_wr _ _ _ _
      · have e4 := h4 n0 p0 hn
        subst e4
        dsimp only
        by_cases c3 : hit tx ln a4 59
        · rw [if_pos c3, sg_t c3]
          refine ⟨(fun p hp => by cases hp), fun f s n p hp => ?_⟩
          cases hp
          exact ⟨rfl, rfl, c1, rfl, rfl, rfl⟩
        · rw [if_neg c3, sg_f c3]
          refine ⟨fun p hp => ?_, (fun f s n p hp => by cases hp)⟩
          cases hp
          rfl
    · rw [if_neg c2, sg_f c2]
      refine ⟨fun p hp => ?_, (fun f s n p hp => by cases hp)⟩
      cases hp
      rw [nm_wr, sg_wr]
  · rw [if_neg c1, sg_f c1]
    refine ⟨fun p hp => ?_, (fun f s n p hp => by cases hp)⟩
    cases hp
    rw [sg_wr, nm_wr, sg_wr]
theorem msv_spec {tx : Nat → Nat} {ln a a4 L : Nat} {o : Option Nat} (hL : L = 109 ∨ L = 115 ∨ L = 118) (hh : hit tx ln a L) (h4 : ∀ n p, numF tx ln (a + 4) = .inr (n, p) → a4 = p) :
    (∀ p, cmdF tx ln a = .inl p → sg (hit tx ln a4 59) (nmO tx ln (sg (hit tx ln (a + 3) 44) (sg (dig tx ln (a + 2) 8) (sg (dig tx ln (a + 1) 8) o (a + 1)) (a + 2)) (a + 3)) (a + 4)) a4 = wr o p) ∧ (∀ f s n p, cmdF tx ln a = .inr (f, s, n, p) → sg (hit tx ln a4 59) (nmO tx ln (sg (hit tx ln (a + 3) 44) (sg (dig tx ln (a + 2) 8) (sg (dig tx ln (a + 1) 8) o (a + 1)) (a + 2)) (a + 3)) (a + 4)) a4 = o ∧ a4 + 1 = p ∧ dig tx ln (a + 1) 8 ∧ f = tx (a + 1) - 48 ∧ dig tx ln (a + 2) 8 ∧ s = tx (a + 2) - 48 ∧ numF tx ln (a + 4) = .inr (n, a4)) := by
  have hx := hh.2
  have ec : cmdF tx ln a = if dig tx ln (a + 1) 8 then
      if dig tx ln (a + 2) 8 then
        if hit tx ln (a + 3) 44 then match endF tx ln (a + 4) with
          | .inl p => .inl p
          | .inr (n, p) => .inr (tx (a + 1) - 48, tx (a + 2) - 48, n, p)
        else .inl (a + 3)
      else .inl (a + 2)
    else .inl (a + 1) := by
    unfold cmdF
    rw [if_neg (fun q => by rcases q with q | q <;> have := q.2 <;> omega), if_pos (by
      rcases hL with rfl | rfl | rfl
      · exact Or.inl hh
      · exact Or.inr (Or.inl hh)
      · exact Or.inr (Or.inr hh))]
    rfl
  rw [ec]
  by_cases c1 : dig tx ln (a + 1) 8
  · rw [if_pos c1, sg_t c1]
    by_cases c5 : dig tx ln (a + 2) 8
    · rw [if_pos c5, sg_t c5]
      by_cases c2 : hit tx ln (a + 3) 44
      · rw [if_pos c2, sg_t c2]
        unfold nmO endF
        rcases hn : numF tx ln (a + 4) with p0 | ⟨n0, p0⟩
        · dsimp only
          refine ⟨fun p hp => ?_, (fun f s n p hp => by cases hp)⟩
          cases hp
          exact sg_wr _ _ _ _
        · have e4 := h4 n0 p0 hn
          subst e4
          dsimp only
          by_cases c3 : hit tx ln a4 59
          · rw [if_pos c3, sg_t c3]
            refine ⟨(fun p hp => by cases hp), fun f s n p hp => ?_⟩
            cases hp
            exact ⟨rfl, rfl, c1, rfl, c5, rfl, rfl⟩
          · rw [if_neg c3, sg_f c3]
            refine ⟨fun p hp => ?_, (fun f s n p hp => by cases hp)⟩
            cases hp
            rfl
      · rw [if_neg c2, sg_f c2]
        refine ⟨fun p hp => ?_, (fun f s n p hp => by cases hp)⟩
        cases hp
        rw [nm_wr, sg_wr]
    · rw [if_neg c5, sg_f c5]
      refine ⟨fun p hp => ?_, (fun f s n p hp => by cases hp)⟩
      cases hp
      rw [sg_wr, nm_wr, sg_wr]
  · rw [if_neg c1, sg_f c1]
    refine ⟨fun p hp => ?_, (fun f s n p hp => by cases hp)⟩
    cases hp
    rw [sg_wr, sg_wr, nm_wr, sg_wr]
theorem r_spec {tx : Nat → Nat} {ln a a4 : Nat} {o : Option Nat} (hh : hit tx ln a 114) (h4 : ∀ n p, numF tx ln (a + 2) = .inr (n, p) → a4 = p) :
    (∀ p, cmdF tx ln a = .inl p → sg (hit tx ln a4 59) (nmO tx ln (sg (dig tx ln (a + 1) 2) o (a + 1)) (a + 2)) a4 = wr o p) ∧ (∀ f s n p, cmdF tx ln a = .inr (f, s, n, p) → sg (hit tx ln a4 59) (nmO tx ln (sg (dig tx ln (a + 1) 2) o (a + 1)) (a + 2)) a4 = o ∧ a4 + 1 = p ∧ dig tx ln (a + 1) 2 ∧ f = tx (a + 1) - 48 ∧ numF tx ln (a + 2) = .inr (n, a4)) := by
  have hx := hh.2
  have ec : cmdF tx ln a = if dig tx ln (a + 1) 2 then match endF tx ln (a + 2) with
      | .inl p => .inl p
      | .inr (n, p) => .inr (tx (a + 1) - 48, 0, n, p)
    else .inl (a + 1) := by
    unfold cmdF
    rw [if_neg (fun q => by rcases q with q | q <;> have := q.2 <;> omega), if_neg (fun q => by rcases q with q | q | q <;> have := q.2 <;> omega), if_pos hh]
    rfl
  rw [ec]
  by_cases c1 : dig tx ln (a + 1) 2
  · rw [if_pos c1, sg_t c1]
    unfold nmO endF
    rcases hn : numF tx ln (a + 2) with p0 | ⟨n0, p0⟩
    · dsimp only
      refine ⟨fun p hp => ?_, (fun f s n p hp => by cases hp)⟩
      cases hp
      exact sg_wr _ _ _ _
    · have e4 := h4 n0 p0 hn
      subst e4
      dsimp only
      by_cases c3 : hit tx ln a4 59
      · rw [if_pos c3, sg_t c3]
        refine ⟨(fun p hp => by cases hp), fun f s n p hp => ?_⟩
        cases hp
        exact ⟨rfl, rfl, c1, rfl, rfl⟩
      · rw [if_neg c3, sg_f c3]
        refine ⟨fun p hp => ?_, (fun f s n p hp => by cases hp)⟩
        cases hp
        rfl
  · rw [if_neg c1, sg_f c1]
    refine ⟨fun p hp => ?_, (fun f s n p hp => by cases hp)⟩
    cases hp
    rw [nm_wr, sg_wr]
theorem tc_spec {tx : Nat → Nat} {ln a L : Nat} {o : Option Nat} (hL : L = 116 ∨ L = 99) (hh : hit tx ln a L) :
    (∀ p, cmdF tx ln a = .inl p → sg (hit tx ln (a + 2) 59) (sg (dig tx ln (a + 1) 2) o (a + 1)) (a + 2) = wr o p) ∧ (∀ f s n p, cmdF tx ln a = .inr (f, s, n, p) → sg (hit tx ln (a + 2) 59) (sg (dig tx ln (a + 1) 2) o (a + 1)) (a + 2) = o ∧ a + 2 + 1 = p ∧ dig tx ln (a + 1) 2 ∧ f = tx (a + 1) - 48) := by
  have hx := hh.2
  have ec : cmdF tx ln a = if dig tx ln (a + 1) 2 then
      if hit tx ln (a + 2) 59 then .inr (tx (a + 1) - 48, 0, 0, a + 3) else .inl (a + 2)
    else .inl (a + 1) := by
    unfold cmdF
    rw [if_neg (fun q => by rcases q with q | q <;> have := q.2 <;> omega), if_neg (fun q => by rcases q with q | q | q <;> have := q.2 <;> omega), if_neg (fun q => by have := q.2; omega), if_pos (by
      rcases hL with rfl | rfl
      · exact Or.inl hh
      · exact Or.inr hh)]
  rw [ec]
  by_cases c1 : dig tx ln (a + 1) 2
  · rw [if_pos c1, sg_t c1]
    by_cases c3 : hit tx ln (a + 2) 59
    · rw [if_pos c3, sg_t c3]
      refine ⟨(fun p hp => by cases hp), fun f s n p hp => ?_⟩
      cases hp
      exact ⟨rfl, rfl, c1, rfl⟩
    · rw [if_neg c3, sg_f c3]
      refine ⟨fun p hp => ?_, (fun f s n p hp => by cases hp)⟩
      cases hp
      rfl
  · rw [if_neg c1, sg_f c1]
    refine ⟨fun p hp => ?_, (fun f s n p hp => by cases hp)⟩
    cases hp
    rw [sg_wr]
section
variable {X : jX} {d : Nat} {M : jM} {h : jH} {c th an le fi se am : Int32} {hs : Int64} {ln : Nat} {tx : Nat → Nat} {T : Nat → Int32} {o : Option Nat}
/-- what reads leaves behind -/
def rdQ (X : jX) (d : Nat) (M : jM) (h : jH) (c th an : Int32) (hs : Int64) (ln : Nat) (tx : Nat → Nat) (o : Option Nat) (a : Nat) : Prop :=
  ∃ (a' : Nat) (o4 : Option Nat) (le' fi' se' am' : Int32), Rn X (d + 3) 164 0 [some (.ref 70)] [] M h = some (.inl none, va_up M 70 (.inr (5, [.ref 71, .ref 72, .int c, .ref 73, .ref 74, .int (zN ln), .ref 75, .int th, .int an, .int (zN a'), .int (synI o4), .int le', .int fi', .int se', .int am', .long hs])), h) ∧ (∀ p, cmdF tx ln a = .inl p → o4 = wr o p) ∧ (∀ f s n p, cmdF tx ln a = .inr (f, s, n, p) → o4 = o ∧ a' = p ∧ le' = zN (tx a) ∧ fi' = zN f ∧ (tx a ≠ 114 → tx a ≠ 116 → tx a ≠ 99 → se' = zN s) ∧ (tx a ≠ 116 → tx a ≠ 99 → am' = zN n))
theorem d_lu {a L : Nat} (m0 : M 70 = (.inr (5, [.ref 71, .ref 72, .int c, .ref 73, .ref 74, .int (zN ln), .ref 75, .int th, .int an, .int (zN a), .int (synI o), .int le, .int fi, .int se, .int am, .long hs]))) (m4 : M 74 = .inl (0, 100, .inl T)) (hT : ∀ j, j < ln → T j = zN (tx j)) (hl : ln ≤ 100) (ht : ∀ j, j < ln → tx j < 128) (ha : a < 8000) (hb : bo o) (hL : L = 108 ∨ L = 117) (hh : hit tx ln a L) : rdQ X d M h c th an hs ln tx o a := by
  have e0 := d_here (X := X) (d := d + 2) (h := j_h0 h) m0 m4 hT hl (a := a) (by omega)
  have hc : ch tx ln a = zN L := by
    unfold ch
    rw [if_pos hh.1, hh.2]
  rw [hc] at e0
  obtain ⟨x1, e1, y1⟩ := d_digit (X := X) (d := d + 1) (h := j_h0 h) (M := va_up M 70 (.inr (5, [.ref 71, .ref 72, .int c, .ref 73, .ref 74, .int (zN ln), .ref 75, .int th, .int an, .int (zN (a + 1)), .int (synI o), .int (zN L), .int fi, .int se, .int am, .long hs]))) (a := a + 1) (k := 7) (va_up_self _ _ _) ((va_up_ne _ _ (by omega)).trans m4) hT hl ht (by omega) (by omega) hb
  have b1 : bo (sg (dig tx ln (a + 1) 8) o (a + 1)) := bo_sg hb (by omega)
  have e2 := d_sign (X := X) (d := d + 1) (h := j_h0 h) (M := va_up M 70 (.inr (5, [.ref 71, .ref 72, .int c, .ref 73, .ref 74, .int (zN ln), .ref 75, .int th, .int an, .int (zN (a + 2)), .int (synI (sg (dig tx ln (a + 1) 8) o (a + 1))), .int (zN L), .int x1, .int (zN 0), .int am, .long hs]))) (a := a + 2) (k := 44) (va_up_self _ _ _) ((va_up_ne _ _ (by omega)).trans m4) hT hl ht (by omega) (by omega) b1
  have b2 : bo (sg (hit tx ln (a + 2) 44) (sg (dig tx ln (a + 1) 8) o (a + 1)) (a + 2)) := bo_sg b1 (by omega)
  obtain ⟨x3, a4, e3, l1, l2, y3⟩ := d_amount (X := X) (d := d) (h := j_h0 h) (M := va_up M 70 (.inr (5, [.ref 71, .ref 72, .int c, .ref 73, .ref 74, .int (zN ln), .ref 75, .int th, .int an, .int (zN (a + 3)), .int (synI (sg (hit tx ln (a + 2) 44) (sg (dig tx ln (a + 1) 8) o (a + 1)) (a + 2))), .int (zN L), .int x1, .int (zN 0), .int am, .long hs]))) (a := a + 3) (va_up_self _ _ _) ((va_up_ne _ _ (by omega)).trans m4) hT hl ht (by omega) b2
  have b3 := bo_nm (tx := tx) (ln := ln) (a := a + 3) b2 (by omega)
  have e4 := d_sign (X := X) (d := d + 1) (h := j_h0 h) (M := va_up M 70 (.inr (5, [.ref 71, .ref 72, .int c, .ref 73, .ref 74, .int (zN ln), .ref 75, .int th, .int an, .int (zN a4), .int (synI (nmO tx ln (sg (hit tx ln (a + 2) 44) (sg (dig tx ln (a + 1) 8) o (a + 1)) (a + 2)) (a + 3))), .int (zN L), .int x1, .int (zN 0), .int x3, .long hs]))) (a := a4) (k := 59) (va_up_self _ _ _) ((va_up_ne _ _ (by omega)).trans m4) hT hl ht (by omega) (by omega) b3
  obtain ⟨s1, s2⟩ := lu_spec (o := o) hL hh (fun n p e => (y3 n p e).2)
  rw [vu_up] at e1 e2 e3 e4
  refine ⟨a4 + 1, _, zN L, x1, zN 0, x3, ?_, s1, fun f s n p e => ?_⟩
  · rcases hL with rfl | rfl
    · simp (disch := first | exact cs_0 | exact cs_1 _ | exact cs_2 _ _ | exact cs_3 _ _ _ | exact cs_4 _ _ _ _ | exact j_one_i _ | exact j_one_r _ | exact j_one_n | omega) only [e164_0, e164_1, e164_2, e164_5, e164_8, e164_9, e164_9r, e164_10, e164_13, e164_14, e164_15, e164_18, e164_19, e164_22_99, e164_22_100, e164_22_101, e164_22_102, e164_22_103, e164_22_104, e164_22_105, e164_22_106, e164_22_107, e164_22_108, e164_22_109, e164_22_110, e164_22_111, e164_22_112, e164_22_113, e164_22_114, e164_22_115, e164_22_116, e164_22_117, e164_22_118, e164_22_h, e164_22_l, e164_22_m, e164_116, e164_117, e164_118, e164_120, e164_123, e164_126, e164_127, e164_128, e164_131, e164_132, e164_134, e164_137, e164_138, e164_139, e164_142, e164_145, e164_148, e164_149, e164_150, e164_152, e164_155, e164_158, e164_159, e164_160, e164_162, e164_165, e164_168, e164_169, e164_171, e164_174, e164_175, e164_176, e164_179, e164_182, e164_185, e164_186, e164_187, e164_188, e164_191, e164_194, e164_195, e164_196, e164_199, e164_202, e164_205, e164_206, e164_207, e164_208, e164_211, e164_214, e164_217, e164_218, e164_219, e164_222, e164_223, e164_224, e164_227, e164_228, e164_230, e164_233, q_k_v, q_k_n, q_k_x, q_kc_v, q_kc_n, q_kc_x, q_rc, q_eq_t, q_eq_f, q_eq_nm, q_eq_mn, q_eq_mt, q_eq_mf, q_lt_t, q_lt_f, q_lt_mn, q_lt_nm, q_le_t, q_le_f, q_le_mn, q_le_nm, q_ac_t, q_ac_f, q_dv_n, q_rm_n, q_ld_n, q_lB_n, q_lJ_n, q_st_n, q_sB_n, q_sJ_n, q_sQ_n, q_cp_n, zN_add, zN_mul, zN_sub, zN_subm, zM_sub, zN_and, va_up_self, va_up_ne, j_add0, j_addt, ne_eq, not_false_eq_true, not_true_eq_false, Nat.reduceAdd, Nat.reduceSub, Nat.reduceMul, Nat.reduceMod, Nat.reduceEqDiff, q_g0_0, q_p0_0, q_g0_1, q_p0_1, q_g0_2, q_p0_2, q_g0_3, q_p0_3, q_g0_4, q_p0_4, q_g0_5, q_p0_5, q_g0_6, q_p0_6, q_g0_7, q_p0_7, q_g1_0, q_p1_0, q_g1_1, q_p1_1, q_g1_2, q_p1_2, q_g1_3, q_p1_3, q_g1_4, q_p1_4, q_g1_5, q_p1_5, q_g1_6, q_p1_6, q_g2_0, q_p2_0, q_g2_1, q_p2_1, q_g2_2, q_p2_2, q_g2_3, q_p2_3, q_g3_0, q_p3_0, q_g3_1, q_p3_1, q_g3_2, q_p3_2, q_g3_3, q_p3_3, q_g3_4, q_p3_4, q_g3_5, q_p3_5, q_g3_6, q_p3_6, q_g4_0, q_p4_0, q_g4_1, q_p4_1, q_g4_2, q_p4_2, q_g4_3, q_p4_3, q_g4_4, q_p4_4, q_g5_0, q_p5_0, q_g5_1, q_p5_1, q_g5_2, q_p5_2, q_g5_3, q_p5_3, q_g5_4, q_p5_4, q_g5_5, q_p5_5, q_g5_6, q_p5_6, q_g5_7, q_p5_7, q_g5_8, q_p5_8, q_g5_9, q_p5_9, q_g5_10, q_p5_10, q_g5_11, q_p5_11, q_g5_12, q_p5_12, q_g5_13, q_p5_13, q_g5_14, q_p5_14, q_g5_15, q_p5_15, m0, vu_up, e0, e1, e2, e3, e4]
    · simp (disch := first | exact cs_0 | exact cs_1 _ | exact cs_2 _ _ | exact cs_3 _ _ _ | exact cs_4 _ _ _ _ | exact j_one_i _ | exact j_one_r _ | exact j_one_n | omega) only [e164_0, e164_1, e164_2, e164_5, e164_8, e164_9, e164_9r, e164_10, e164_13, e164_14, e164_15, e164_18, e164_19, e164_22_99, e164_22_100, e164_22_101, e164_22_102, e164_22_103, e164_22_104, e164_22_105, e164_22_106, e164_22_107, e164_22_108, e164_22_109, e164_22_110, e164_22_111, e164_22_112, e164_22_113, e164_22_114, e164_22_115, e164_22_116, e164_22_117, e164_22_118, e164_22_h, e164_22_l, e164_22_m, e164_116, e164_117, e164_118, e164_120, e164_123, e164_126, e164_127, e164_128, e164_131, e164_132, e164_134, e164_137, e164_138, e164_139, e164_142, e164_145, e164_148, e164_149, e164_150, e164_152, e164_155, e164_158, e164_159, e164_160, e164_162, e164_165, e164_168, e164_169, e164_171, e164_174, e164_175, e164_176, e164_179, e164_182, e164_185, e164_186, e164_187, e164_188, e164_191, e164_194, e164_195, e164_196, e164_199, e164_202, e164_205, e164_206, e164_207, e164_208, e164_211, e164_214, e164_217, e164_218, e164_219, e164_222, e164_223, e164_224, e164_227, e164_228, e164_230, e164_233, q_k_v, q_k_n, q_k_x, q_kc_v, q_kc_n, q_kc_x, q_rc, q_eq_t, q_eq_f, q_eq_nm, q_eq_mn, q_eq_mt, q_eq_mf, q_lt_t, q_lt_f, q_lt_mn, q_lt_nm, q_le_t, q_le_f, q_le_mn, q_le_nm, q_ac_t, q_ac_f, q_dv_n, q_rm_n, q_ld_n, q_lB_n, q_lJ_n, q_st_n, q_sB_n, q_sJ_n, q_sQ_n, q_cp_n, zN_add, zN_mul, zN_sub, zN_subm, zM_sub, zN_and, va_up_self, va_up_ne, j_add0, j_addt, ne_eq, not_false_eq_true, not_true_eq_false, Nat.reduceAdd, Nat.reduceSub, Nat.reduceMul, Nat.reduceMod, Nat.reduceEqDiff, q_g0_0, q_p0_0, q_g0_1, q_p0_1, q_g0_2, q_p0_2, q_g0_3, q_p0_3, q_g0_4, q_p0_4, q_g0_5, q_p0_5, q_g0_6, q_p0_6, q_g0_7, q_p0_7, q_g1_0, q_p1_0, q_g1_1, q_p1_1, q_g1_2, q_p1_2, q_g1_3, q_p1_3, q_g1_4, q_p1_4, q_g1_5, q_p1_5, q_g1_6, q_p1_6, q_g2_0, q_p2_0, q_g2_1, q_p2_1, q_g2_2, q_p2_2, q_g2_3, q_p2_3, q_g3_0, q_p3_0, q_g3_1, q_p3_1, q_g3_2, q_p3_2, q_g3_3, q_p3_3, q_g3_4, q_p3_4, q_g3_5, q_p3_5, q_g3_6, q_p3_6, q_g4_0, q_p4_0, q_g4_1, q_p4_1, q_g4_2, q_p4_2, q_g4_3, q_p4_3, q_g4_4, q_p4_4, q_g5_0, q_p5_0, q_g5_1, q_p5_1, q_g5_2, q_p5_2, q_g5_3, q_p5_3, q_g5_4, q_p5_4, q_g5_5, q_p5_5, q_g5_6, q_p5_6, q_g5_7, q_p5_7, q_g5_8, q_p5_8, q_g5_9, q_p5_9, q_g5_10, q_p5_10, q_g5_11, q_p5_11, q_g5_12, q_p5_12, q_g5_13, q_p5_13, q_g5_14, q_p5_14, q_g5_15, q_p5_15, m0, vu_up, e0, e1, e2, e3, e4]
  · obtain ⟨t1, t2, t3, t4, t5, t6⟩ := s2 f s n p e
    exact ⟨t1, t2, by rw [hh.2], by rw [t4]; exact y1 t3, fun _ _ _ => by rw [t5], fun _ _ => (y3 n a4 t6).1⟩
theorem d_msv {a L : Nat} (m0 : M 70 = (.inr (5, [.ref 71, .ref 72, .int c, .ref 73, .ref 74, .int (zN ln), .ref 75, .int th, .int an, .int (zN a), .int (synI o), .int le, .int fi, .int se, .int am, .long hs]))) (m4 : M 74 = .inl (0, 100, .inl T)) (hT : ∀ j, j < ln → T j = zN (tx j)) (hl : ln ≤ 100) (ht : ∀ j, j < ln → tx j < 128) (ha : a < 8000) (hb : bo o) (hL : L = 109 ∨ L = 115 ∨ L = 118) (hh : hit tx ln a L) : rdQ X d M h c th an hs ln tx o a := by
  have e0 := d_here (X := X) (d := d + 2) (h := j_h0 h) m0 m4 hT hl (a := a) (by omega)
  have hc : ch tx ln a = zN L := by
    unfold ch
    rw [if_pos hh.1, hh.2]
  rw [hc] at e0
  obtain ⟨x1, e1, y1⟩ := d_digit (X := X) (d := d + 1) (h := j_h0 h) (M := va_up M 70 (.inr (5, [.ref 71, .ref 72, .int c, .ref 73, .ref 74, .int (zN ln), .ref 75, .int th, .int an, .int (zN (a + 1)), .int (synI o), .int (zN L), .int fi, .int se, .int am, .long hs]))) (a := a + 1) (k := 7) (va_up_self _ _ _) ((va_up_ne _ _ (by omega)).trans m4) hT hl ht (by omega) (by omega) hb
  have b1 : bo (sg (dig tx ln (a + 1) 8) o (a + 1)) := bo_sg hb (by omega)
  obtain ⟨x2, e5, y2⟩ := d_digit (X := X) (d := d + 1) (h := j_h0 h) (M := va_up M 70 (.inr (5, [.ref 71, .ref 72, .int c, .ref 73, .ref 74, .int (zN ln), .ref 75, .int th, .int an, .int (zN (a + 2)), .int (synI (sg (dig tx ln (a + 1) 8) o (a + 1))), .int (zN L), .int x1, .int se, .int am, .long hs]))) (a := a + 2) (k := 7) (va_up_self _ _ _) ((va_up_ne _ _ (by omega)).trans m4) hT hl ht (by omega) (by omega) b1
  have b5 : bo (sg (dig tx ln (a + 2) 8) (sg (dig tx ln (a + 1) 8) o (a + 1)) (a + 2)) := bo_sg b1 (by omega)
  have e2 := d_sign (X := X) (d := d + 1) (h := j_h0 h) (M := va_up M 70 (.inr (5, [.ref 71, .ref 72, .int c, .ref 73, .ref 74, .int (zN ln), .ref 75, .int th, .int an, .int (zN (a + 3)), .int (synI (sg (dig tx ln (a + 2) 8) (sg (dig tx ln (a + 1) 8) o (a + 1)) (a + 2))), .int (zN L), .int x1, .int x2, .int am, .long hs]))) (a := a + 3) (k := 44) (va_up_self _ _ _) ((va_up_ne _ _ (by omega)).trans m4) hT hl ht (by omega) (by omega) b5
  have b2 : bo (sg (hit tx ln (a + 3) 44) (sg (dig tx ln (a + 2) 8) (sg (dig tx ln (a + 1) 8) o (a + 1)) (a + 2)) (a + 3)) := bo_sg b5 (by omega)
  obtain ⟨x3, a4, e3, l1, l2, y3⟩ := d_amount (X := X) (d := d) (h := j_h0 h) (M := va_up M 70 (.inr (5, [.ref 71, .ref 72, .int c, .ref 73, .ref 74, .int (zN ln), .ref 75, .int th, .int an, .int (zN (a + 4)), .int (synI (sg (hit tx ln (a + 3) 44) (sg (dig tx ln (a + 2) 8) (sg (dig tx ln (a + 1) 8) o (a + 1)) (a + 2)) (a + 3))), .int (zN L), .int x1, .int x2, .int am, .long hs]))) (a := a + 4) (va_up_self _ _ _) ((va_up_ne _ _ (by omega)).trans m4) hT hl ht (by omega) b2
  have b3 := bo_nm (tx := tx) (ln := ln) (a := a + 4) b2 (by omega)
  have e4 := d_sign (X := X) (d := d + 1) (h := j_h0 h) (M := va_up M 70 (.inr (5, [.ref 71, .ref 72, .int c, .ref 73, .ref 74, .int (zN ln), .ref 75, .int th, .int an, .int (zN a4), .int (synI (nmO tx ln (sg (hit tx ln (a + 3) 44) (sg (dig tx ln (a + 2) 8) (sg (dig tx ln (a + 1) 8) o (a + 1)) (a + 2)) (a + 3)) (a + 4))), .int (zN L), .int x1, .int x2, .int x3, .long hs]))) (a := a4) (k := 59) (va_up_self _ _ _) ((va_up_ne _ _ (by omega)).trans m4) hT hl ht (by omega) (by omega) b3
  obtain ⟨s1, s2⟩ := msv_spec (o := o) hL hh (fun n p e => (y3 n p e).2)
  rw [vu_up] at e1 e2 e3 e4 e5
  refine ⟨a4 + 1, _, zN L, x1, x2, x3, ?_, s1, fun f s n p e => ?_⟩
  · rcases hL with rfl | rfl | rfl
    · simp (disch := first | exact cs_0 | exact cs_1 _ | exact cs_2 _ _ | exact cs_3 _ _ _ | exact cs_4 _ _ _ _ | exact j_one_i _ | exact j_one_r _ | exact j_one_n | omega) only [e164_0, e164_1, e164_2, e164_5, e164_8, e164_9, e164_9r, e164_10, e164_13, e164_14, e164_15, e164_18, e164_19, e164_22_99, e164_22_100, e164_22_101, e164_22_102, e164_22_103, e164_22_104, e164_22_105, e164_22_106, e164_22_107, e164_22_108, e164_22_109, e164_22_110, e164_22_111, e164_22_112, e164_22_113, e164_22_114, e164_22_115, e164_22_116, e164_22_117, e164_22_118, e164_22_h, e164_22_l, e164_22_m, e164_116, e164_117, e164_118, e164_120, e164_123, e164_126, e164_127, e164_128, e164_131, e164_132, e164_134, e164_137, e164_138, e164_139, e164_142, e164_145, e164_148, e164_149, e164_150, e164_152, e164_155, e164_158, e164_159, e164_160, e164_162, e164_165, e164_168, e164_169, e164_171, e164_174, e164_175, e164_176, e164_179, e164_182, e164_185, e164_186, e164_187, e164_188, e164_191, e164_194, e164_195, e164_196, e164_199, e164_202, e164_205, e164_206, e164_207, e164_208, e164_211, e164_214, e164_217, e164_218, e164_219, e164_222, e164_223, e164_224, e164_227, e164_228, e164_230, e164_233, q_k_v, q_k_n, q_k_x, q_kc_v, q_kc_n, q_kc_x, q_rc, q_eq_t, q_eq_f, q_eq_nm, q_eq_mn, q_eq_mt, q_eq_mf, q_lt_t, q_lt_f, q_lt_mn, q_lt_nm, q_le_t, q_le_f, q_le_mn, q_le_nm, q_ac_t, q_ac_f, q_dv_n, q_rm_n, q_ld_n, q_lB_n, q_lJ_n, q_st_n, q_sB_n, q_sJ_n, q_sQ_n, q_cp_n, zN_add, zN_mul, zN_sub, zN_subm, zM_sub, zN_and, va_up_self, va_up_ne, j_add0, j_addt, ne_eq, not_false_eq_true, not_true_eq_false, Nat.reduceAdd, Nat.reduceSub, Nat.reduceMul, Nat.reduceMod, Nat.reduceEqDiff, q_g0_0, q_p0_0, q_g0_1, q_p0_1, q_g0_2, q_p0_2, q_g0_3, q_p0_3, q_g0_4, q_p0_4, q_g0_5, q_p0_5, q_g0_6, q_p0_6, q_g0_7, q_p0_7, q_g1_0, q_p1_0, q_g1_1, q_p1_1, q_g1_2, q_p1_2, q_g1_3, q_p1_3, q_g1_4, q_p1_4, q_g1_5, q_p1_5, q_g1_6, q_p1_6, q_g2_0, q_p2_0, q_g2_1, q_p2_1, q_g2_2, q_p2_2, q_g2_3, q_p2_3, q_g3_0, q_p3_0, q_g3_1, q_p3_1, q_g3_2, q_p3_2, q_g3_3, q_p3_3, q_g3_4, q_p3_4, q_g3_5, q_p3_5, q_g3_6, q_p3_6, q_g4_0, q_p4_0, q_g4_1, q_p4_1, q_g4_2, q_p4_2, q_g4_3, q_p4_3, q_g4_4, q_p4_4, q_g5_0, q_p5_0, q_g5_1, q_p5_1, q_g5_2, q_p5_2, q_g5_3, q_p5_3, q_g5_4, q_p5_4, q_g5_5, q_p5_5, q_g5_6, q_p5_6, q_g5_7, q_p5_7, q_g5_8, q_p5_8, q_g5_9, q_p5_9, q_g5_10, q_p5_10, q_g5_11, q_p5_11, q_g5_12, q_p5_12, q_g5_13, q_p5_13, q_g5_14, q_p5_14, q_g5_15, q_p5_15, m0, vu_up, e0, e1, e2, e3, e4, e5]
    · simp (disch := first | exact cs_0 | exact cs_1 _ | exact cs_2 _ _ | exact cs_3 _ _ _ | exact cs_4 _ _ _ _ | exact j_one_i _ | exact j_one_r _ | exact j_one_n | omega) only [e164_0, e164_1, e164_2, e164_5, e164_8, e164_9, e164_9r, e164_10, e164_13, e164_14, e164_15, e164_18, e164_19, e164_22_99, e164_22_100, e164_22_101, e164_22_102, e164_22_103, e164_22_104, e164_22_105, e164_22_106, e164_22_107, e164_22_108, e164_22_109, e164_22_110, e164_22_111, e164_22_112, e164_22_113, e164_22_114, e164_22_115, e164_22_116, e164_22_117, e164_22_118, e164_22_h, e164_22_l, e164_22_m, e164_116, e164_117, e164_118, e164_120, e164_123, e164_126, e164_127, e164_128, e164_131, e164_132, e164_134, e164_137, e164_138, e164_139, e164_142, e164_145, e164_148, e164_149, e164_150, e164_152, e164_155, e164_158, e164_159, e164_160, e164_162, e164_165, e164_168, e164_169, e164_171, e164_174, e164_175, e164_176, e164_179, e164_182, e164_185, e164_186, e164_187, e164_188, e164_191, e164_194, e164_195, e164_196, e164_199, e164_202, e164_205, e164_206, e164_207, e164_208, e164_211, e164_214, e164_217, e164_218, e164_219, e164_222, e164_223, e164_224, e164_227, e164_228, e164_230, e164_233, q_k_v, q_k_n, q_k_x, q_kc_v, q_kc_n, q_kc_x, q_rc, q_eq_t, q_eq_f, q_eq_nm, q_eq_mn, q_eq_mt, q_eq_mf, q_lt_t, q_lt_f, q_lt_mn, q_lt_nm, q_le_t, q_le_f, q_le_mn, q_le_nm, q_ac_t, q_ac_f, q_dv_n, q_rm_n, q_ld_n, q_lB_n, q_lJ_n, q_st_n, q_sB_n, q_sJ_n, q_sQ_n, q_cp_n, zN_add, zN_mul, zN_sub, zN_subm, zM_sub, zN_and, va_up_self, va_up_ne, j_add0, j_addt, ne_eq, not_false_eq_true, not_true_eq_false, Nat.reduceAdd, Nat.reduceSub, Nat.reduceMul, Nat.reduceMod, Nat.reduceEqDiff, q_g0_0, q_p0_0, q_g0_1, q_p0_1, q_g0_2, q_p0_2, q_g0_3, q_p0_3, q_g0_4, q_p0_4, q_g0_5, q_p0_5, q_g0_6, q_p0_6, q_g0_7, q_p0_7, q_g1_0, q_p1_0, q_g1_1, q_p1_1, q_g1_2, q_p1_2, q_g1_3, q_p1_3, q_g1_4, q_p1_4, q_g1_5, q_p1_5, q_g1_6, q_p1_6, q_g2_0, q_p2_0, q_g2_1, q_p2_1, q_g2_2, q_p2_2, q_g2_3, q_p2_3, q_g3_0, q_p3_0, q_g3_1, q_p3_1, q_g3_2, q_p3_2, q_g3_3, q_p3_3, q_g3_4, q_p3_4, q_g3_5, q_p3_5, q_g3_6, q_p3_6, q_g4_0, q_p4_0, q_g4_1, q_p4_1, q_g4_2, q_p4_2, q_g4_3, q_p4_3, q_g4_4, q_p4_4, q_g5_0, q_p5_0, q_g5_1, q_p5_1, q_g5_2, q_p5_2, q_g5_3, q_p5_3, q_g5_4, q_p5_4, q_g5_5, q_p5_5, q_g5_6, q_p5_6, q_g5_7, q_p5_7, q_g5_8, q_p5_8, q_g5_9, q_p5_9, q_g5_10, q_p5_10, q_g5_11, q_p5_11, q_g5_12, q_p5_12, q_g5_13, q_p5_13, q_g5_14, q_p5_14, q_g5_15, q_p5_15, m0, vu_up, e0, e1, e2, e3, e4, e5]
    · simp (disch := first | exact cs_0 | exact cs_1 _ | exact cs_2 _ _ | exact cs_3 _ _ _ | exact cs_4 _ _ _ _ | exact j_one_i _ | exact j_one_r _ | exact j_one_n | omega) only [e164_0, e164_1, e164_2, e164_5, e164_8, e164_9, e164_9r, e164_10, e164_13, e164_14, e164_15, e164_18, e164_19, e164_22_99, e164_22_100, e164_22_101, e164_22_102, e164_22_103, e164_22_104, e164_22_105, e164_22_106, e164_22_107, e164_22_108, e164_22_109, e164_22_110, e164_22_111, e164_22_112, e164_22_113, e164_22_114, e164_22_115, e164_22_116, e164_22_117, e164_22_118, e164_22_h, e164_22_l, e164_22_m, e164_116, e164_117, e164_118, e164_120, e164_123, e164_126, e164_127, e164_128, e164_131, e164_132, e164_134, e164_137, e164_138, e164_139, e164_142, e164_145, e164_148, e164_149, e164_150, e164_152, e164_155, e164_158, e164_159, e164_160, e164_162, e164_165, e164_168, e164_169, e164_171, e164_174, e164_175, e164_176, e164_179, e164_182, e164_185, e164_186, e164_187, e164_188, e164_191, e164_194, e164_195, e164_196, e164_199, e164_202, e164_205, e164_206, e164_207, e164_208, e164_211, e164_214, e164_217, e164_218, e164_219, e164_222, e164_223, e164_224, e164_227, e164_228, e164_230, e164_233, q_k_v, q_k_n, q_k_x, q_kc_v, q_kc_n, q_kc_x, q_rc, q_eq_t, q_eq_f, q_eq_nm, q_eq_mn, q_eq_mt, q_eq_mf, q_lt_t, q_lt_f, q_lt_mn, q_lt_nm, q_le_t, q_le_f, q_le_mn, q_le_nm, q_ac_t, q_ac_f, q_dv_n, q_rm_n, q_ld_n, q_lB_n, q_lJ_n, q_st_n, q_sB_n, q_sJ_n, q_sQ_n, q_cp_n, zN_add, zN_mul, zN_sub, zN_subm, zM_sub, zN_and, va_up_self, va_up_ne, j_add0, j_addt, ne_eq, not_false_eq_true, not_true_eq_false, Nat.reduceAdd, Nat.reduceSub, Nat.reduceMul, Nat.reduceMod, Nat.reduceEqDiff, q_g0_0, q_p0_0, q_g0_1, q_p0_1, q_g0_2, q_p0_2, q_g0_3, q_p0_3, q_g0_4, q_p0_4, q_g0_5, q_p0_5, q_g0_6, q_p0_6, q_g0_7, q_p0_7, q_g1_0, q_p1_0, q_g1_1, q_p1_1, q_g1_2, q_p1_2, q_g1_3, q_p1_3, q_g1_4, q_p1_4, q_g1_5, q_p1_5, q_g1_6, q_p1_6, q_g2_0, q_p2_0, q_g2_1, q_p2_1, q_g2_2, q_p2_2, q_g2_3, q_p2_3, q_g3_0, q_p3_0, q_g3_1, q_p3_1, q_g3_2, q_p3_2, q_g3_3, q_p3_3, q_g3_4, q_p3_4, q_g3_5, q_p3_5, q_g3_6, q_p3_6, q_g4_0, q_p4_0, q_g4_1, q_p4_1, q_g4_2, q_p4_2, q_g4_3, q_p4_3, q_g4_4, q_p4_4, q_g5_0, q_p5_0, q_g5_1, q_p5_1, q_g5_2, q_p5_2, q_g5_3, q_p5_3, q_g5_4, q_p5_4, q_g5_5, q_p5_5, q_g5_6, q_p5_6, q_g5_7, q_p5_7, q_g5_8, q_p5_8, q_g5_9, q_p5_9, q_g5_10, q_p5_10, q_g5_11, q_p5_11, q_g5_12, q_p5_12, q_g5_13, q_p5_13, q_g5_14, q_p5_14, q_g5_15, q_p5_15, m0, vu_up, e0, e1, e2, e3, e4, e5]
  · obtain ⟨t1, t2, t3, t4, t7, t5, t6⟩ := s2 f s n p e
    exact ⟨t1, t2, by rw [hh.2], by rw [t4]; exact y1 t3, fun _ _ _ => by rw [t5]; exact y2 t7, fun _ _ => (y3 n a4 t6).1⟩
theorem d_r {a : Nat} (m0 : M 70 = (.inr (5, [.ref 71, .ref 72, .int c, .ref 73, .ref 74, .int (zN ln), .ref 75, .int th, .int an, .int (zN a), .int (synI o), .int le, .int fi, .int se, .int am, .long hs]))) (m4 : M 74 = .inl (0, 100, .inl T)) (hT : ∀ j, j < ln → T j = zN (tx j)) (hl : ln ≤ 100) (ht : ∀ j, j < ln → tx j < 128) (ha : a < 8000) (hb : bo o) (hh : hit tx ln a 114) : rdQ X d M h c th an hs ln tx o a := by
  have e0 := d_here (X := X) (d := d + 2) (h := j_h0 h) m0 m4 hT hl (a := a) (by omega)
  have hc : ch tx ln a = zN 114 := by
    unfold ch
    rw [if_pos hh.1, hh.2]
  rw [hc] at e0
  obtain ⟨x1, e1, y1⟩ := d_digit (X := X) (d := d + 1) (h := j_h0 h) (M := va_up M 70 (.inr (5, [.ref 71, .ref 72, .int c, .ref 73, .ref 74, .int (zN ln), .ref 75, .int th, .int an, .int (zN (a + 1)), .int (synI o), .int (zN 114), .int fi, .int se, .int am, .long hs]))) (a := a + 1) (k := 1) (va_up_self _ _ _) ((va_up_ne _ _ (by omega)).trans m4) hT hl ht (by omega) (by omega) hb
  have b1 : bo (sg (dig tx ln (a + 1) 2) o (a + 1)) := bo_sg hb (by omega)
  obtain ⟨x3, a4, e3, l1, l2, y3⟩ := d_amount (X := X) (d := d) (h := j_h0 h) (M := va_up M 70 (.inr (5, [.ref 71, .ref 72, .int c, .ref 73, .ref 74, .int (zN ln), .ref 75, .int th, .int an, .int (zN (a + 2)), .int (synI (sg (dig tx ln (a + 1) 2) o (a + 1))), .int (zN 114), .int x1, .int se, .int am, .long hs]))) (a := a + 2) (va_up_self _ _ _) ((va_up_ne _ _ (by omega)).trans m4) hT hl ht (by omega) b1
  have b3 := bo_nm (tx := tx) (ln := ln) (a := a + 2) b1 (by omega)
  have e4 := d_sign (X := X) (d := d + 1) (h := j_h0 h) (M := va_up M 70 (.inr (5, [.ref 71, .ref 72, .int c, .ref 73, .ref 74, .int (zN ln), .ref 75, .int th, .int an, .int (zN a4), .int (synI (nmO tx ln (sg (dig tx ln (a + 1) 2) o (a + 1)) (a + 2))), .int (zN 114), .int x1, .int se, .int x3, .long hs]))) (a := a4) (k := 59) (va_up_self _ _ _) ((va_up_ne _ _ (by omega)).trans m4) hT hl ht (by omega) (by omega) b3
  obtain ⟨s1, s2⟩ := r_spec (o := o) hh (fun n p e => (y3 n p e).2)
  rw [vu_up] at e1 e3 e4
  refine ⟨a4 + 1, _, zN 114, x1, se, x3, ?_, s1, fun f s n p e => ?_⟩
  · simp (disch := first | exact cs_0 | exact cs_1 _ | exact cs_2 _ _ | exact cs_3 _ _ _ | exact cs_4 _ _ _ _ | exact j_one_i _ | exact j_one_r _ | exact j_one_n | omega) only [e164_0, e164_1, e164_2, e164_5, e164_8, e164_9, e164_9r, e164_10, e164_13, e164_14, e164_15, e164_18, e164_19, e164_22_99, e164_22_100, e164_22_101, e164_22_102, e164_22_103, e164_22_104, e164_22_105, e164_22_106, e164_22_107, e164_22_108, e164_22_109, e164_22_110, e164_22_111, e164_22_112, e164_22_113, e164_22_114, e164_22_115, e164_22_116, e164_22_117, e164_22_118, e164_22_h, e164_22_l, e164_22_m, e164_116, e164_117, e164_118, e164_120, e164_123, e164_126, e164_127, e164_128, e164_131, e164_132, e164_134, e164_137, e164_138, e164_139, e164_142, e164_145, e164_148, e164_149, e164_150, e164_152, e164_155, e164_158, e164_159, e164_160, e164_162, e164_165, e164_168, e164_169, e164_171, e164_174, e164_175, e164_176, e164_179, e164_182, e164_185, e164_186, e164_187, e164_188, e164_191, e164_194, e164_195, e164_196, e164_199, e164_202, e164_205, e164_206, e164_207, e164_208, e164_211, e164_214, e164_217, e164_218, e164_219, e164_222, e164_223, e164_224, e164_227, e164_228, e164_230, e164_233, q_k_v, q_k_n, q_k_x, q_kc_v, q_kc_n, q_kc_x, q_rc, q_eq_t, q_eq_f, q_eq_nm, q_eq_mn, q_eq_mt, q_eq_mf, q_lt_t, q_lt_f, q_lt_mn, q_lt_nm, q_le_t, q_le_f, q_le_mn, q_le_nm, q_ac_t, q_ac_f, q_dv_n, q_rm_n, q_ld_n, q_lB_n, q_lJ_n, q_st_n, q_sB_n, q_sJ_n, q_sQ_n, q_cp_n, zN_add, zN_mul, zN_sub, zN_subm, zM_sub, zN_and, va_up_self, va_up_ne, j_add0, j_addt, ne_eq, not_false_eq_true, not_true_eq_false, Nat.reduceAdd, Nat.reduceSub, Nat.reduceMul, Nat.reduceMod, Nat.reduceEqDiff, q_g0_0, q_p0_0, q_g0_1, q_p0_1, q_g0_2, q_p0_2, q_g0_3, q_p0_3, q_g0_4, q_p0_4, q_g0_5, q_p0_5, q_g0_6, q_p0_6, q_g0_7, q_p0_7, q_g1_0, q_p1_0, q_g1_1, q_p1_1, q_g1_2, q_p1_2, q_g1_3, q_p1_3, q_g1_4, q_p1_4, q_g1_5, q_p1_5, q_g1_6, q_p1_6, q_g2_0, q_p2_0, q_g2_1, q_p2_1, q_g2_2, q_p2_2, q_g2_3, q_p2_3, q_g3_0, q_p3_0, q_g3_1, q_p3_1, q_g3_2, q_p3_2, q_g3_3, q_p3_3, q_g3_4, q_p3_4, q_g3_5, q_p3_5, q_g3_6, q_p3_6, q_g4_0, q_p4_0, q_g4_1, q_p4_1, q_g4_2, q_p4_2, q_g4_3, q_p4_3, q_g4_4, q_p4_4, q_g5_0, q_p5_0, q_g5_1, q_p5_1, q_g5_2, q_p5_2, q_g5_3, q_p5_3, q_g5_4, q_p5_4, q_g5_5, q_p5_5, q_g5_6, q_p5_6, q_g5_7, q_p5_7, q_g5_8, q_p5_8, q_g5_9, q_p5_9, q_g5_10, q_p5_10, q_g5_11, q_p5_11, q_g5_12, q_p5_12, q_g5_13, q_p5_13, q_g5_14, q_p5_14, q_g5_15, q_p5_15, m0, vu_up, e0, e1, e3, e4]
  · obtain ⟨t1, t2, t3, t4, t6⟩ := s2 f s n p e
    exact ⟨t1, t2, by rw [hh.2], by rw [t4]; exact y1 t3, fun q _ _ => absurd hh.2 q, fun _ _ => (y3 n a4 t6).1⟩
theorem d_tc {a L : Nat} (m0 : M 70 = (.inr (5, [.ref 71, .ref 72, .int c, .ref 73, .ref 74, .int (zN ln), .ref 75, .int th, .int an, .int (zN a), .int (synI o), .int le, .int fi, .int se, .int am, .long hs]))) (m4 : M 74 = .inl (0, 100, .inl T)) (hT : ∀ j, j < ln → T j = zN (tx j)) (hl : ln ≤ 100) (ht : ∀ j, j < ln → tx j < 128) (ha : a < 8000) (hb : bo o) (hL : L = 116 ∨ L = 99) (hh : hit tx ln a L) : rdQ X d M h c th an hs ln tx o a := by
  have e0 := d_here (X := X) (d := d + 2) (h := j_h0 h) m0 m4 hT hl (a := a) (by omega)
  have hc : ch tx ln a = zN L := by
    unfold ch
    rw [if_pos hh.1, hh.2]
  rw [hc] at e0
  obtain ⟨x1, e1, y1⟩ := d_digit (X := X) (d := d + 1) (h := j_h0 h) (M := va_up M 70 (.inr (5, [.ref 71, .ref 72, .int c, .ref 73, .ref 74, .int (zN ln), .ref 75, .int th, .int an, .int (zN (a + 1)), .int (synI o), .int (zN L), .int fi, .int se, .int am, .long hs]))) (a := a + 1) (k := 1) (va_up_self _ _ _) ((va_up_ne _ _ (by omega)).trans m4) hT hl ht (by omega) (by omega) hb
  have b1 : bo (sg (dig tx ln (a + 1) 2) o (a + 1)) := bo_sg hb (by omega)
  have e4 := d_sign (X := X) (d := d + 1) (h := j_h0 h) (M := va_up M 70 (.inr (5, [.ref 71, .ref 72, .int c, .ref 73, .ref 74, .int (zN ln), .ref 75, .int th, .int an, .int (zN (a + 2)), .int (synI (sg (dig tx ln (a + 1) 2) o (a + 1))), .int (zN L), .int x1, .int se, .int am, .long hs]))) (a := a + 2) (k := 59) (va_up_self _ _ _) ((va_up_ne _ _ (by omega)).trans m4) hT hl ht (by omega) (by omega) b1
  obtain ⟨s1, s2⟩ := tc_spec (o := o) hL hh
  rw [vu_up] at e1 e4
  refine ⟨a + 2 + 1, _, zN L, x1, se, am, ?_, s1, fun f s n p e => ?_⟩
  · rcases hL with rfl | rfl
    · simp (disch := first | exact cs_0 | exact cs_1 _ | exact cs_2 _ _ | exact cs_3 _ _ _ | exact cs_4 _ _ _ _ | exact j_one_i _ | exact j_one_r _ | exact j_one_n | omega) only [e164_0, e164_1, e164_2, e164_5, e164_8, e164_9, e164_9r, e164_10, e164_13, e164_14, e164_15, e164_18, e164_19, e164_22_99, e164_22_100, e164_22_101, e164_22_102, e164_22_103, e164_22_104, e164_22_105, e164_22_106, e164_22_107, e164_22_108, e164_22_109, e164_22_110, e164_22_111, e164_22_112, e164_22_113, e164_22_114, e164_22_115, e164_22_116, e164_22_117, e164_22_118, e164_22_h, e164_22_l, e164_22_m, e164_116, e164_117, e164_118, e164_120, e164_123, e164_126, e164_127, e164_128, e164_131, e164_132, e164_134, e164_137, e164_138, e164_139, e164_142, e164_145, e164_148, e164_149, e164_150, e164_152, e164_155, e164_158, e164_159, e164_160, e164_162, e164_165, e164_168, e164_169, e164_171, e164_174, e164_175, e164_176, e164_179, e164_182, e164_185, e164_186, e164_187, e164_188, e164_191, e164_194, e164_195, e164_196, e164_199, e164_202, e164_205, e164_206, e164_207, e164_208, e164_211, e164_214, e164_217, e164_218, e164_219, e164_222, e164_223, e164_224, e164_227, e164_228, e164_230, e164_233, q_k_v, q_k_n, q_k_x, q_kc_v, q_kc_n, q_kc_x, q_rc, q_eq_t, q_eq_f, q_eq_nm, q_eq_mn, q_eq_mt, q_eq_mf, q_lt_t, q_lt_f, q_lt_mn, q_lt_nm, q_le_t, q_le_f, q_le_mn, q_le_nm, q_ac_t, q_ac_f, q_dv_n, q_rm_n, q_ld_n, q_lB_n, q_lJ_n, q_st_n, q_sB_n, q_sJ_n, q_sQ_n, q_cp_n, zN_add, zN_mul, zN_sub, zN_subm, zM_sub, zN_and, va_up_self, va_up_ne, j_add0, j_addt, ne_eq, not_false_eq_true, not_true_eq_false, Nat.reduceAdd, Nat.reduceSub, Nat.reduceMul, Nat.reduceMod, Nat.reduceEqDiff, q_g0_0, q_p0_0, q_g0_1, q_p0_1, q_g0_2, q_p0_2, q_g0_3, q_p0_3, q_g0_4, q_p0_4, q_g0_5, q_p0_5, q_g0_6, q_p0_6, q_g0_7, q_p0_7, q_g1_0, q_p1_0, q_g1_1, q_p1_1, q_g1_2, q_p1_2, q_g1_3, q_p1_3, q_g1_4, q_p1_4, q_g1_5, q_p1_5, q_g1_6, q_p1_6, q_g2_0, q_p2_0, q_g2_1, q_p2_1, q_g2_2, q_p2_2, q_g2_3, q_p2_3, q_g3_0, q_p3_0, q_g3_1, q_p3_1, q_g3_2, q_p3_2, q_g3_3, q_p3_3, q_g3_4, q_p3_4, q_g3_5, q_p3_5, q_g3_6, q_p3_6, q_g4_0, q_p4_0, q_g4_1, q_p4_1, q_g4_2, q_p4_2, q_g4_3, q_p4_3, q_g4_4, q_p4_4, q_g5_0, q_p5_0, q_g5_1, q_p5_1, q_g5_2, q_p5_2, q_g5_3, q_p5_3, q_g5_4, q_p5_4, q_g5_5, q_p5_5, q_g5_6, q_p5_6, q_g5_7, q_p5_7, q_g5_8, q_p5_8, q_g5_9, q_p5_9, q_g5_10, q_p5_10, q_g5_11, q_p5_11, q_g5_12, q_p5_12, q_g5_13, q_p5_13, q_g5_14, q_p5_14, q_g5_15, q_p5_15, m0, vu_up, e0, e1, e4]
    · simp (disch := first | exact cs_0 | exact cs_1 _ | exact cs_2 _ _ | exact cs_3 _ _ _ | exact cs_4 _ _ _ _ | exact j_one_i _ | exact j_one_r _ | exact j_one_n | omega) only [e164_0, e164_1, e164_2, e164_5, e164_8, e164_9, e164_9r, e164_10, e164_13, e164_14, e164_15, e164_18, e164_19, e164_22_99, e164_22_100, e164_22_101, e164_22_102, e164_22_103, e164_22_104, e164_22_105, e164_22_106, e164_22_107, e164_22_108, e164_22_109, e164_22_110, e164_22_111, e164_22_112, e164_22_113, e164_22_114, e164_22_115, e164_22_116, e164_22_117, e164_22_118, e164_22_h, e164_22_l, e164_22_m, e164_116, e164_117, e164_118, e164_120, e164_123, e164_126, e164_127, e164_128, e164_131, e164_132, e164_134, e164_137, e164_138, e164_139, e164_142, e164_145, e164_148, e164_149, e164_150, e164_152, e164_155, e164_158, e164_159, e164_160, e164_162, e164_165, e164_168, e164_169, e164_171, e164_174, e164_175, e164_176, e164_179, e164_182, e164_185, e164_186, e164_187, e164_188, e164_191, e164_194, e164_195, e164_196, e164_199, e164_202, e164_205, e164_206, e164_207, e164_208, e164_211, e164_214, e164_217, e164_218, e164_219, e164_222, e164_223, e164_224, e164_227, e164_228, e164_230, e164_233, q_k_v, q_k_n, q_k_x, q_kc_v, q_kc_n, q_kc_x, q_rc, q_eq_t, q_eq_f, q_eq_nm, q_eq_mn, q_eq_mt, q_eq_mf, q_lt_t, q_lt_f, q_lt_mn, q_lt_nm, q_le_t, q_le_f, q_le_mn, q_le_nm, q_ac_t, q_ac_f, q_dv_n, q_rm_n, q_ld_n, q_lB_n, q_lJ_n, q_st_n, q_sB_n, q_sJ_n, q_sQ_n, q_cp_n, zN_add, zN_mul, zN_sub, zN_subm, zM_sub, zN_and, va_up_self, va_up_ne, j_add0, j_addt, ne_eq, not_false_eq_true, not_true_eq_false, Nat.reduceAdd, Nat.reduceSub, Nat.reduceMul, Nat.reduceMod, Nat.reduceEqDiff, q_g0_0, q_p0_0, q_g0_1, q_p0_1, q_g0_2, q_p0_2, q_g0_3, q_p0_3, q_g0_4, q_p0_4, q_g0_5, q_p0_5, q_g0_6, q_p0_6, q_g0_7, q_p0_7, q_g1_0, q_p1_0, q_g1_1, q_p1_1, q_g1_2, q_p1_2, q_g1_3, q_p1_3, q_g1_4, q_p1_4, q_g1_5, q_p1_5, q_g1_6, q_p1_6, q_g2_0, q_p2_0, q_g2_1, q_p2_1, q_g2_2, q_p2_2, q_g2_3, q_p2_3, q_g3_0, q_p3_0, q_g3_1, q_p3_1, q_g3_2, q_p3_2, q_g3_3, q_p3_3, q_g3_4, q_p3_4, q_g3_5, q_p3_5, q_g3_6, q_p3_6, q_g4_0, q_p4_0, q_g4_1, q_p4_1, q_g4_2, q_p4_2, q_g4_3, q_p4_3, q_g4_4, q_p4_4, q_g5_0, q_p5_0, q_g5_1, q_p5_1, q_g5_2, q_p5_2, q_g5_3, q_p5_3, q_g5_4, q_p5_4, q_g5_5, q_p5_5, q_g5_6, q_p5_6, q_g5_7, q_p5_7, q_g5_8, q_p5_8, q_g5_9, q_p5_9, q_g5_10, q_p5_10, q_g5_11, q_p5_11, q_g5_12, q_p5_12, q_g5_13, q_p5_13, q_g5_14, q_p5_14, q_g5_15, q_p5_15, m0, vu_up, e0, e1, e4]
  · obtain ⟨t1, t2, t3, t4⟩ := s2 f s n p e
    have hx := hh.2
    exact ⟨t1, t2, by rw [hh.2], by rw [t4]; exact y1 t3, fun q1 q2 q3 => by omega, fun q2 q3 => by omega⟩
theorem d_no {a : Nat} (m0 : M 70 = (.inr (5, [.ref 71, .ref 72, .int c, .ref 73, .ref 74, .int (zN ln), .ref 75, .int th, .int an, .int (zN a), .int (synI o), .int le, .int fi, .int se, .int am, .long hs]))) (m4 : M 74 = .inl (0, 100, .inl T)) (hT : ∀ j, j < ln → T j = zN (tx j)) (hl : ln ≤ 100) (ht : ∀ j, j < ln → tx j < 128) (ha : a < 8000) (hb : bo o) (hh : ∀ L, L = 99 ∨ L = 108 ∨ L = 109 ∨ L = 114 ∨ L = 115 ∨ L = 116 ∨ L = 117 ∨ L = 118 → ¬ hit tx ln a L) : rdQ X d M h c th an hs ln tx o a := by
  have e0 := d_here (X := X) (d := d + 2) (h := j_h0 h) m0 m4 hT hl (a := a) (by omega)
  have e1 := d_wrong (X := X) (d := d + 2) (h := j_h0 h) (M := va_up M 70 (.inr (5, [.ref 71, .ref 72, .int c, .ref 73, .ref 74, .int (zN ln), .ref 75, .int th, .int an, .int (zN (a + 1)), .int (synI o), .int (ch tx ln a), .int fi, .int se, .int am, .long hs]))) (a := a) (x := zN (a + 1)) (va_up_self _ _ _) hb
  have e4 := d_sign (X := X) (d := d + 1) (h := j_h0 h) (M := va_up M 70 (.inr (5, [.ref 71, .ref 72, .int c, .ref 73, .ref 74, .int (zN ln), .ref 75, .int th, .int an, .int (zN (a + 1)), .int (synI (wr o a)), .int (ch tx ln a), .int fi, .int se, .int am, .long hs]))) (a := a + 1) (k := 59) (va_up_self _ _ _) ((va_up_ne _ _ (by omega)).trans m4) hT hl ht (by omega) (by omega) (bo_wr hb (by omega))
  rw [vu_up] at e1 e4
  rw [sg_wr] at e4
  have ec : cmdF tx ln a = .inl a := by
    unfold cmdF
    rw [if_neg (fun q => by rcases q with q | q <;> exact hh _ (by omega) q), if_neg (fun q => by rcases q with q | q | q <;> exact hh _ (by omega) q), if_neg (fun q => hh _ (by omega) q), if_neg (fun q => by rcases q with q | q <;> exact hh _ (by omega) q)]
  refine ⟨a + 1 + 1, wr o a, ch tx ln a, fi, se, am, ?_, fun p hp => ?_, fun f s n p hp => ?_⟩
  · unfold ch at e0 e1 e4 ⊢
    by_cases q : a < ln
    · rw [if_pos q] at e0 e1 e4 ⊢
      have h8 := ht a q
      have hn : ∀ L, L = 99 ∨ L = 108 ∨ L = 109 ∨ L = 114 ∨ L = 115 ∨ L = 116 ∨ L = 117 ∨ L = 118 → tx a ≠ L := fun L hL e => hh L hL ⟨q, e⟩
      have n1 := hn 99 (by omega)
      have n2 := hn 108 (by omega)
      have n3 := hn 109 (by omega)
      have n4 := hn 114 (by omega)
      have n5 := hn 115 (by omega)
      have n6 := hn 116 (by omega)
      have n7 := hn 117 (by omega)
      have n8 := hn 118 (by omega)
      by_cases c1 : tx a < 99
      · simp (disch := first | exact cs_0 | exact cs_1 _ | exact cs_2 _ _ | exact cs_3 _ _ _ | exact cs_4 _ _ _ _ | exact j_one_i _ | exact j_one_r _ | exact j_one_n | omega) only [e164_0, e164_1, e164_2, e164_5, e164_8, e164_9, e164_9r, e164_10, e164_13, e164_14, e164_15, e164_18, e164_19, e164_22_99, e164_22_100, e164_22_101, e164_22_102, e164_22_103, e164_22_104, e164_22_105, e164_22_106, e164_22_107, e164_22_108, e164_22_109, e164_22_110, e164_22_111, e164_22_112, e164_22_113, e164_22_114, e164_22_115, e164_22_116, e164_22_117, e164_22_118, e164_22_h, e164_22_l, e164_22_m, e164_116, e164_117, e164_118, e164_120, e164_123, e164_126, e164_127, e164_128, e164_131, e164_132, e164_134, e164_137, e164_138, e164_139, e164_142, e164_145, e164_148, e164_149, e164_150, e164_152, e164_155, e164_158, e164_159, e164_160, e164_162, e164_165, e164_168, e164_169, e164_171, e164_174, e164_175, e164_176, e164_179, e164_182, e164_185, e164_186, e164_187, e164_188, e164_191, e164_194, e164_195, e164_196, e164_199, e164_202, e164_205, e164_206, e164_207, e164_208, e164_211, e164_214, e164_217, e164_218, e164_219, e164_222, e164_223, e164_224, e164_227, e164_228, e164_230, e164_233, q_k_v, q_k_n, q_k_x, q_kc_v, q_kc_n, q_kc_x, q_rc, q_eq_t, q_eq_f, q_eq_nm, q_eq_mn, q_eq_mt, q_eq_mf, q_lt_t, q_lt_f, q_lt_mn, q_lt_nm, q_le_t, q_le_f, q_le_mn, q_le_nm, q_ac_t, q_ac_f, q_dv_n, q_rm_n, q_ld_n, q_lB_n, q_lJ_n, q_st_n, q_sB_n, q_sJ_n, q_sQ_n, q_cp_n, zN_add, zN_mul, zN_sub, zN_subm, zM_sub, zN_and, va_up_self, va_up_ne, j_add0, j_addt, ne_eq, not_false_eq_true, not_true_eq_false, Nat.reduceAdd, Nat.reduceSub, Nat.reduceMul, Nat.reduceMod, Nat.reduceEqDiff, q_g0_0, q_p0_0, q_g0_1, q_p0_1, q_g0_2, q_p0_2, q_g0_3, q_p0_3, q_g0_4, q_p0_4, q_g0_5, q_p0_5, q_g0_6, q_p0_6, q_g0_7, q_p0_7, q_g1_0, q_p1_0, q_g1_1, q_p1_1, q_g1_2, q_p1_2, q_g1_3, q_p1_3, q_g1_4, q_p1_4, q_g1_5, q_p1_5, q_g1_6, q_p1_6, q_g2_0, q_p2_0, q_g2_1, q_p2_1, q_g2_2, q_p2_2, q_g2_3, q_p2_3, q_g3_0, q_p3_0, q_g3_1, q_p3_1, q_g3_2, q_p3_2, q_g3_3, q_p3_3, q_g3_4, q_p3_4, q_g3_5, q_p3_5, q_g3_6, q_p3_6, q_g4_0, q_p4_0, q_g4_1, q_p4_1, q_g4_2, q_p4_2, q_g4_3, q_p4_3, q_g4_4, q_p4_4, q_g5_0, q_p5_0, q_g5_1, q_p5_1, q_g5_2, q_p5_2, q_g5_3, q_p5_3, q_g5_4, q_p5_4, q_g5_5, q_p5_5, q_g5_6, q_p5_6, q_g5_7, q_p5_7, q_g5_8, q_p5_8, q_g5_9, q_p5_9, q_g5_10, q_p5_10, q_g5_11, q_p5_11, q_g5_12, q_p5_12, q_g5_13, q_p5_13, q_g5_14, q_p5_14, q_g5_15, q_p5_15, m0, vu_up, e0, e1, e4, Nat.add_sub_cancel]
      · by_cases c2 : 118 < tx a
        · simp (disch := first | exact cs_0 | exact cs_1 _ | exact cs_2 _ _ | exact cs_3 _ _ _ | exact cs_4 _ _ _ _ | exact j_one_i _ | exact j_one_r _ | exact j_one_n | omega) only [e164_0, e164_1, e164_2, e164_5, e164_8, e164_9, e164_9r, e164_10, e164_13, e164_14, e164_15, e164_18, e164_19, e164_22_99, e164_22_100, e164_22_101, e164_22_102, e164_22_103, e164_22_104, e164_22_105, e164_22_106, e164_22_107, e164_22_108, e164_22_109, e164_22_110, e164_22_111, e164_22_112, e164_22_113, e164_22_114, e164_22_115, e164_22_116, e164_22_117, e164_22_118, e164_22_h, e164_22_l, e164_22_m, e164_116, e164_117, e164_118, e164_120, e164_123, e164_126, e164_127, e164_128, e164_131, e164_132, e164_134, e164_137, e164_138, e164_139, e164_142, e164_145, e164_148, e164_149, e164_150, e164_152, e164_155, e164_158, e164_159, e164_160, e164_162, e164_165, e164_168, e164_169, e164_171, e164_174, e164_175, e164_176, e164_179, e164_182, e164_185, e164_186, e164_187, e164_188, e164_191, e164_194, e164_195, e164_196, e164_199, e164_202, e164_205, e164_206, e164_207, e164_208, e164_211, e164_214, e164_217, e164_218, e164_219, e164_222, e164_223, e164_224, e164_227, e164_228, e164_230, e164_233, q_k_v, q_k_n, q_k_x, q_kc_v, q_kc_n, q_kc_x, q_rc, q_eq_t, q_eq_f, q_eq_nm, q_eq_mn, q_eq_mt, q_eq_mf, q_lt_t, q_lt_f, q_lt_mn, q_lt_nm, q_le_t, q_le_f, q_le_mn, q_le_nm, q_ac_t, q_ac_f, q_dv_n, q_rm_n, q_ld_n, q_lB_n, q_lJ_n, q_st_n, q_sB_n, q_sJ_n, q_sQ_n, q_cp_n, zN_add, zN_mul, zN_sub, zN_subm, zM_sub, zN_and, va_up_self, va_up_ne, j_add0, j_addt, ne_eq, not_false_eq_true, not_true_eq_false, Nat.reduceAdd, Nat.reduceSub, Nat.reduceMul, Nat.reduceMod, Nat.reduceEqDiff, q_g0_0, q_p0_0, q_g0_1, q_p0_1, q_g0_2, q_p0_2, q_g0_3, q_p0_3, q_g0_4, q_p0_4, q_g0_5, q_p0_5, q_g0_6, q_p0_6, q_g0_7, q_p0_7, q_g1_0, q_p1_0, q_g1_1, q_p1_1, q_g1_2, q_p1_2, q_g1_3, q_p1_3, q_g1_4, q_p1_4, q_g1_5, q_p1_5, q_g1_6, q_p1_6, q_g2_0, q_p2_0, q_g2_1, q_p2_1, q_g2_2, q_p2_2, q_g2_3, q_p2_3, q_g3_0, q_p3_0, q_g3_1, q_p3_1, q_g3_2, q_p3_2, q_g3_3, q_p3_3, q_g3_4, q_p3_4, q_g3_5, q_p3_5, q_g3_6, q_p3_6, q_g4_0, q_p4_0, q_g4_1, q_p4_1, q_g4_2, q_p4_2, q_g4_3, q_p4_3, q_g4_4, q_p4_4, q_g5_0, q_p5_0, q_g5_1, q_p5_1, q_g5_2, q_p5_2, q_g5_3, q_p5_3, q_g5_4, q_p5_4, q_g5_5, q_p5_5, q_g5_6, q_p5_6, q_g5_7, q_p5_7, q_g5_8, q_p5_8, q_g5_9, q_p5_9, q_g5_10, q_p5_10, q_g5_11, q_p5_11, q_g5_12, q_p5_12, q_g5_13, q_p5_13, q_g5_14, q_p5_14, q_g5_15, q_p5_15, m0, vu_up, e0, e1, e4, Nat.add_sub_cancel]
        · have hv : tx a = 100 ∨ tx a = 101 ∨ tx a = 102 ∨ tx a = 103 ∨ tx a = 104 ∨ tx a = 105 ∨ tx a = 106 ∨ tx a = 107 ∨ tx a = 110 ∨ tx a = 111 ∨ tx a = 112 ∨ tx a = 113 := by omega
          rcases hv with e | e | e | e | e | e | e | e | e | e | e | e
          all_goals (rw [e] at e0 e1 e4 ⊢; simp (disch := first | exact cs_0 | exact cs_1 _ | exact cs_2 _ _ | exact cs_3 _ _ _ | exact cs_4 _ _ _ _ | exact j_one_i _ | exact j_one_r _ | exact j_one_n | omega) only [e164_0, e164_1, e164_2, e164_5, e164_8, e164_9, e164_9r, e164_10, e164_13, e164_14, e164_15, e164_18, e164_19, e164_22_99, e164_22_100, e164_22_101, e164_22_102, e164_22_103, e164_22_104, e164_22_105, e164_22_106, e164_22_107, e164_22_108, e164_22_109, e164_22_110, e164_22_111, e164_22_112, e164_22_113, e164_22_114, e164_22_115, e164_22_116, e164_22_117, e164_22_118, e164_22_h, e164_22_l, e164_22_m, e164_116, e164_117, e164_118, e164_120, e164_123, e164_126, e164_127, e164_128, e164_131, e164_132, e164_134, e164_137, e164_138, e164_139, e164_142, e164_145, e164_148, e164_149, e164_150, e164_152, e164_155, e164_158, e164_159, e164_160, e164_162, e164_165, e164_168, e164_169, e164_171, e164_174, e164_175, e164_176, e164_179, e164_182, e164_185, e164_186, e164_187, e164_188, e164_191, e164_194, e164_195, e164_196, e164_199, e164_202, e164_205, e164_206, e164_207, e164_208, e164_211, e164_214, e164_217, e164_218, e164_219, e164_222, e164_223, e164_224, e164_227, e164_228, e164_230, e164_233, q_k_v, q_k_n, q_k_x, q_kc_v, q_kc_n, q_kc_x, q_rc, q_eq_t, q_eq_f, q_eq_nm, q_eq_mn, q_eq_mt, q_eq_mf, q_lt_t, q_lt_f, q_lt_mn, q_lt_nm, q_le_t, q_le_f, q_le_mn, q_le_nm, q_ac_t, q_ac_f, q_dv_n, q_rm_n, q_ld_n, q_lB_n, q_lJ_n, q_st_n, q_sB_n, q_sJ_n, q_sQ_n, q_cp_n, zN_add, zN_mul, zN_sub, zN_subm, zM_sub, zN_and, va_up_self, va_up_ne, j_add0, j_addt, ne_eq, not_false_eq_true, not_true_eq_false, Nat.reduceAdd, Nat.reduceSub, Nat.reduceMul, Nat.reduceMod, Nat.reduceEqDiff, q_g0_0, q_p0_0, q_g0_1, q_p0_1, q_g0_2, q_p0_2, q_g0_3, q_p0_3, q_g0_4, q_p0_4, q_g0_5, q_p0_5, q_g0_6, q_p0_6, q_g0_7, q_p0_7, q_g1_0, q_p1_0, q_g1_1, q_p1_1, q_g1_2, q_p1_2, q_g1_3, q_p1_3, q_g1_4, q_p1_4, q_g1_5, q_p1_5, q_g1_6, q_p1_6, q_g2_0, q_p2_0, q_g2_1, q_p2_1, q_g2_2, q_p2_2, q_g2_3, q_p2_3, q_g3_0, q_p3_0, q_g3_1, q_p3_1, q_g3_2, q_p3_2, q_g3_3, q_p3_3, q_g3_4, q_p3_4, q_g3_5, q_p3_5, q_g3_6, q_p3_6, q_g4_0, q_p4_0, q_g4_1, q_p4_1, q_g4_2, q_p4_2, q_g4_3, q_p4_3, q_g4_4, q_p4_4, q_g5_0, q_p5_0, q_g5_1, q_p5_1, q_g5_2, q_p5_2, q_g5_3, q_p5_3, q_g5_4, q_p5_4, q_g5_5, q_p5_5, q_g5_6, q_p5_6, q_g5_7, q_p5_7, q_g5_8, q_p5_8, q_g5_9, q_p5_9, q_g5_10, q_p5_10, q_g5_11, q_p5_11, q_g5_12, q_p5_12, q_g5_13, q_p5_13, q_g5_14, q_p5_14, q_g5_15, q_p5_15, m0, vu_up, e0, e1, e4, Nat.add_sub_cancel])
    · rw [if_neg q] at e0 e1 e4 ⊢
      simp (disch := first | exact cs_0 | exact cs_1 _ | exact cs_2 _ _ | exact cs_3 _ _ _ | exact cs_4 _ _ _ _ | exact j_one_i _ | exact j_one_r _ | exact j_one_n | omega) only [e164_0, e164_1, e164_2, e164_5, e164_8, e164_9, e164_9r, e164_10, e164_13, e164_14, e164_15, e164_18, e164_19, e164_22_99, e164_22_100, e164_22_101, e164_22_102, e164_22_103, e164_22_104, e164_22_105, e164_22_106, e164_22_107, e164_22_108, e164_22_109, e164_22_110, e164_22_111, e164_22_112, e164_22_113, e164_22_114, e164_22_115, e164_22_116, e164_22_117, e164_22_118, e164_22_h, e164_22_l, e164_22_m, e164_116, e164_117, e164_118, e164_120, e164_123, e164_126, e164_127, e164_128, e164_131, e164_132, e164_134, e164_137, e164_138, e164_139, e164_142, e164_145, e164_148, e164_149, e164_150, e164_152, e164_155, e164_158, e164_159, e164_160, e164_162, e164_165, e164_168, e164_169, e164_171, e164_174, e164_175, e164_176, e164_179, e164_182, e164_185, e164_186, e164_187, e164_188, e164_191, e164_194, e164_195, e164_196, e164_199, e164_202, e164_205, e164_206, e164_207, e164_208, e164_211, e164_214, e164_217, e164_218, e164_219, e164_222, e164_223, e164_224, e164_227, e164_228, e164_230, e164_233, q_k_v, q_k_n, q_k_x, q_kc_v, q_kc_n, q_kc_x, q_rc, q_eq_t, q_eq_f, q_eq_nm, q_eq_mn, q_eq_mt, q_eq_mf, q_lt_t, q_lt_f, q_lt_mn, q_lt_nm, q_le_t, q_le_f, q_le_mn, q_le_nm, q_ac_t, q_ac_f, q_dv_n, q_rm_n, q_ld_n, q_lB_n, q_lJ_n, q_st_n, q_sB_n, q_sJ_n, q_sQ_n, q_cp_n, zN_add, zN_mul, zN_sub, zN_subm, zM_sub, zN_and, va_up_self, va_up_ne, j_add0, j_addt, ne_eq, not_false_eq_true, not_true_eq_false, Nat.reduceAdd, Nat.reduceSub, Nat.reduceMul, Nat.reduceMod, Nat.reduceEqDiff, q_g0_0, q_p0_0, q_g0_1, q_p0_1, q_g0_2, q_p0_2, q_g0_3, q_p0_3, q_g0_4, q_p0_4, q_g0_5, q_p0_5, q_g0_6, q_p0_6, q_g0_7, q_p0_7, q_g1_0, q_p1_0, q_g1_1, q_p1_1, q_g1_2, q_p1_2, q_g1_3, q_p1_3, q_g1_4, q_p1_4, q_g1_5, q_p1_5, q_g1_6, q_p1_6, q_g2_0, q_p2_0, q_g2_1, q_p2_1, q_g2_2, q_p2_2, q_g2_3, q_p2_3, q_g3_0, q_p3_0, q_g3_1, q_p3_1, q_g3_2, q_p3_2, q_g3_3, q_p3_3, q_g3_4, q_p3_4, q_g3_5, q_p3_5, q_g3_6, q_p3_6, q_g4_0, q_p4_0, q_g4_1, q_p4_1, q_g4_2, q_p4_2, q_g4_3, q_p4_3, q_g4_4, q_p4_4, q_g5_0, q_p5_0, q_g5_1, q_p5_1, q_g5_2, q_p5_2, q_g5_3, q_p5_3, q_g5_4, q_p5_4, q_g5_5, q_p5_5, q_g5_6, q_p5_6, q_g5_7, q_p5_7, q_g5_8, q_p5_8, q_g5_9, q_p5_9, q_g5_10, q_p5_10, q_g5_11, q_p5_11, q_g5_12, q_p5_12, q_g5_13, q_p5_13, q_g5_14, q_p5_14, q_g5_15, q_p5_15, m0, vu_up, e0, e1, e4, Nat.add_sub_cancel]
  · rw [ec] at hp
    cases hp
    rfl
  · rw [ec] at hp
    cases hp
theorem d_reads {a : Nat} (m0 : M 70 = (.inr (5, [.ref 71, .ref 72, .int c, .ref 73, .ref 74, .int (zN ln), .ref 75, .int th, .int an, .int (zN a), .int (synI o), .int le, .int fi, .int se, .int am, .long hs]))) (m4 : M 74 = .inl (0, 100, .inl T)) (hT : ∀ j, j < ln → T j = zN (tx j)) (hl : ln ≤ 100) (ht : ∀ j, j < ln → tx j < 128) (ha : a < 8000) (hb : bo o) : rdQ X d M h c th an hs ln tx o a := by
  by_cases c1 : hit tx ln a 116 ∨ hit tx ln a 99
  · have hh : hit tx ln a (tx a) := by rcases c1 with q | q <;> exact ⟨q.1, rfl⟩
    have hL : tx a = 116 ∨ tx a = 99 := by rcases c1 with q | q <;> have := q.2 <;> omega
    exact d_tc m0 m4 hT hl ht ha hb hL hh
  · by_cases c2 : hit tx ln a 114
    · exact d_r m0 m4 hT hl ht ha hb c2
    · by_cases c3 : hit tx ln a 108 ∨ hit tx ln a 117
      · have hh : hit tx ln a (tx a) := by rcases c3 with q | q <;> exact ⟨q.1, rfl⟩
        have hL : tx a = 108 ∨ tx a = 117 := by rcases c3 with q | q <;> have := q.2 <;> omega
        exact d_lu m0 m4 hT hl ht ha hb hL hh
      · by_cases c4 : hit tx ln a 109 ∨ hit tx ln a 115 ∨ hit tx ln a 118
        · have hh : hit tx ln a (tx a) := by rcases c4 with q | q | q <;> exact ⟨q.1, rfl⟩
          have hL : tx a = 109 ∨ tx a = 115 ∨ tx a = 118 := by rcases c4 with q | q | q <;> have := q.2 <;> omega
          exact d_msv m0 m4 hT hl ht ha hb hL hh
        · exact d_no m0 m4 hT hl ht ha hb (fun L hL q => by
            rcases hL with rfl | rfl | rfl | rfl | rfl | rfl | rfl | rfl
            · exact c1 (Or.inr q)
            · exact c3 (Or.inl q)
            · exact c4 (Or.inl q)
            · exact c2 q
            · exact c4 (Or.inr (Or.inl q))
            · exact c1 (Or.inl q)
            · exact c3 (Or.inr q)
            · exact c4 (Or.inr (Or.inr q)))
end
