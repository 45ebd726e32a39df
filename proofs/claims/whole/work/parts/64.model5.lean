/-! the reference: what its private calls do to its whole object -/
/-- at, fault, letter, first, second, amount, hash -/
abbrev mR : Type := Int32 × Int32 × Int32 × Int32 × Int32 × Int32 × Int64
/-- the object while a call is under way: now v, aside w, the answer an -/
def isN (M : jM) (v w : rw_) (cnt : Nat) (u : Nat → rw_) (ln : Nat) (tx : Nat → Nat) (th an : Int32) (r : mR) : Prop :=
  M 70 = (.inr (5, [.ref 71, .ref 72, .int (zN cnt), .ref 73, .ref 74, .int (zN ln), .ref 75, .int th, .int an, .int r.1, .int r.2.1, .int r.2.2.1, .int r.2.2.2.1, .int r.2.2.2.2.1, .int r.2.2.2.2.2.1, .long r.2.2.2.2.2.2])) ∧
  (∃ N : Nat → Int32, M 71 = .inl (0, 206, .inl N) ∧ ∀ j, j < 206 → N j = zN (v j)) ∧
  (∃ K : Nat → Int32, M 72 = .inl (0, 824, .inl K) ∧ ∀ i j, i < cnt → j < 206 → K (206 * i + j) = zN (u i j)) ∧
  (∃ A : Nat → Int32, M 73 = .inl (0, 206, .inl A) ∧ ∀ j, j < 206 → A j = zN (w j)) ∧
  (∃ T : Nat → Int32, M 74 = .inl (0, 100, .inl T) ∧ ∀ j, j < ln → T j = zN (tx j)) ∧
  (∃ H : Nat → Int32, M 75 = .inl (0, 8, .inl H)) ∧ cnt ≤ 4 ∧ ln ≤ 100
section
variable {X : jX} {d : Nat} {M : jM} {h : jH} {v w : rw_} {cnt ln B th : Nat} {u : Nat → rw_} {tx : Nat → Nat} {t an : Int32} {r : mR}
theorem isN_M (hN : isN M v w cnt u ln tx (zN th) an r) : isM M v cnt u ln tx th := by
  obtain ⟨h0, h1, h2, ⟨A, h3, -⟩, h4, h5, h6, h7⟩ := hN
  exact ⟨⟨an, r.1, r.2.1, r.2.2.1, r.2.2.2.1, r.2.2.2.2.1, r.2.2.2.2.2.1, r.2.2.2.2.2.2, h0⟩, h1, h2, ⟨A, h3⟩, h4, h5, h6, h7⟩
/-- the row now and the answer are new -/
theorem isN_set {v' : rw_} {an' : Int32} {N' : Nat → Int32} (hN : isN M v w cnt u ln tx t an r) (hv : ∀ j, j < 206 → N' j = zN (v' j)) : isN (va_up (va_up M 70 (.inr (5, [.ref 71, .ref 72, .int (zN cnt), .ref 73, .ref 74, .int (zN ln), .ref 75, .int t, .int an', .int r.1, .int r.2.1, .int r.2.2.1, .int r.2.2.2.1, .int r.2.2.2.2.1, .int r.2.2.2.2.2.1, .long r.2.2.2.2.2.2]))) 71 (.inl (0, 206, .inl N'))) v' w cnt u ln tx t an' r ∧ sm M (va_up (va_up M 70 (.inr (5, [.ref 71, .ref 72, .int (zN cnt), .ref 73, .ref 74, .int (zN ln), .ref 75, .int t, .int an', .int r.1, .int r.2.1, .int r.2.2.1, .int r.2.2.2.1, .int r.2.2.2.2.1, .int r.2.2.2.2.2.1, .long r.2.2.2.2.2.2]))) 71 (.inl (0, 206, .inl N'))) 70 76 := by
  obtain ⟨h0, h1, ⟨K, h2, k2⟩, ⟨A, h3, k3⟩, ⟨T, h4, k4⟩, ⟨H, h5⟩, h6, h7⟩ := hN
  refine ⟨⟨?_, ⟨N', ?_, hv⟩, ⟨K, ?_, k2⟩, ⟨A, ?_, k3⟩, ⟨T, ?_, k4⟩, ⟨H, ?_⟩, h6, h7⟩, fun a q => ?_⟩
  · rw [va_up_ne _ _ (by omega), va_up_self]
  · rw [va_up_self]
  · rw [va_up_ne _ _ (by omega), va_up_ne _ _ (by omega), h2]
  · rw [va_up_ne _ _ (by omega), va_up_ne _ _ (by omega), h3]
  · rw [va_up_ne _ _ (by omega), va_up_ne _ _ (by omega), h4]
  · rw [va_up_ne _ _ (by omega), va_up_ne _ _ (by omega), h5]
  · rw [va_up_ne _ _ (by omega), va_up_ne _ _ (by omega)]
theorem n_as (hM : isM M v cnt u ln tx th) : ∃ M' an r, Rn X d 114 0 [some (.ref 70), none] [] M h = some (.inl none, M', h) ∧ isN M' v v cnt u ln tx (zN th) an r ∧ sm M M' 70 76 := by
  obtain ⟨⟨an, x, fa, le, fi, se, am, hs, h0⟩, ⟨N, h1, k1⟩, ⟨K, h2, k2⟩, ⟨A, h3⟩, ⟨T, h4, k4⟩, ⟨H, h5⟩, h6, h7⟩ := hM
  obtain ⟨A', e, rr⟩ := r_asides (X := X) (d := d) (h := h) h0 h1 h3
  refine ⟨_, an, (x, fa, le, fi, se, am, hs), e, ⟨?_, ⟨N, ?_, k1⟩, ⟨K, ?_, k2⟩, ⟨A', va_up_self _ _ _, fun j hj => by rw [rr j hj, k1 j hj]⟩, ⟨T, ?_, k4⟩, ⟨H, ?_⟩, h6, h7⟩, fun a q => va_up_ne _ _ (by omega)⟩
  · rw [va_up_ne _ _ (by omega), h0]
  · rw [va_up_ne _ _ (by omega), h1]
  · rw [va_up_ne _ _ (by omega), h2]
  · rw [va_up_ne _ _ (by omega), h4]
  · rw [va_up_ne _ _ (by omega), h5]
theorem n_sv (hN : isN M v w cnt u ln tx t an r) : ∃ M', Rn X d 115 0 [some (.ref 70), none] [] M h = some (.inl none, M', h) ∧ isN M' v w (svC cnt) (svU u cnt w) ln tx t an r ∧ sm M M' 70 76 := by
  obtain ⟨h0, ⟨N, h1, k1⟩, ⟨K, h2, k2⟩, ⟨A, h3, k3⟩, ⟨T, h4, k4⟩, ⟨H, h5⟩, h6, h7⟩ := hN
  obtain ⟨M', e, r0, r2, rs⟩ := r_saves (X := X) (d := d) (h := h) h0 h2 h3 k3 k2 h6
  exact ⟨M', e, ⟨r0, ⟨N, (rs 71 (by omega) (by omega)).trans h1, k1⟩, r2, ⟨A, (rs 73 (by omega) (by omega)).trans h3, k3⟩, ⟨T, (rs 74 (by omega) (by omega)).trans h4, k4⟩, ⟨H, (rs 75 (by omega) (by omega)).trans h5⟩, svC_le cnt, h7⟩, fun a q => rs a (by omega) (by omega)⟩
/-- the code that says what was thrown is put -/
theorem isN_th {t' : Int32} (hN : isN M v w cnt u ln tx t an r) : isN (va_up M 70 (.inr (5, [.ref 71, .ref 72, .int (zN cnt), .ref 73, .ref 74, .int (zN ln), .ref 75, .int t', .int an, .int r.1, .int r.2.1, .int r.2.2.1, .int r.2.2.2.1, .int r.2.2.2.2.1, .int r.2.2.2.2.2.1, .long r.2.2.2.2.2.2]))) v w cnt u ln tx t' an r := by
  obtain ⟨h0, ⟨N, h1, k1⟩, ⟨K, h2, k2⟩, ⟨A, h3, k3⟩, ⟨T, h4, k4⟩, ⟨H, h5⟩, h6, h7⟩ := hN
  refine ⟨va_up_self _ _ _, ⟨N, ?_, k1⟩, ⟨K, ?_, k2⟩, ⟨A, ?_, k3⟩, ⟨T, ?_, k4⟩, ⟨H, ?_⟩, h6, h7⟩
  · rw [va_up_ne _ _ (by omega), h1]
  · rw [va_up_ne _ _ (by omega), h2]
  · rw [va_up_ne _ _ (by omega), h3]
  · rw [va_up_ne _ _ (by omega), h4]
  · rw [va_up_ne _ _ (by omega), h5]
theorem n_well {x : Int32} (hN : isN M v w cnt u ln tx t an r) : ∃ M', Rn X d 103 0 [some (.ref 70), some (.int x)] [] M h = some (.inl (some (.int x)), M', h) ∧ isN M' v w cnt u ln tx (zN 0) an r ∧ sm M M' 70 76 := by
  refine ⟨_, ?_, isN_th (t' := zN 0) hN, fun a q => va_up_ne _ _ (by omega)⟩
  have h0 := hN.1
  simp (disch := first | exact cs_0 | exact cs_1 _ | exact cs_2 _ _ | exact cs_3 _ _ _ | exact cs_4 _ _ _ _ | exact j_one_i _ | exact j_one_r _ | exact j_one_n | omega) only [e103_0, e103_1, e103_2, e103_5, e103_6, q_k_v, q_k_n, q_k_x, q_kc_v, q_kc_n, q_kc_x, q_rc, q_eq_t, q_eq_f, q_eq_nm, q_eq_mn, q_eq_mt, q_eq_mf, q_lt_t, q_lt_f, q_lt_mn, q_lt_nm, q_le_t, q_le_f, q_le_mn, q_le_nm, q_ac_t, q_ac_f, q_dv_n, q_rm_n, q_ld_n, q_lB_n, q_lJ_n, q_st_n, q_sB_n, q_sJ_n, q_sQ_n, q_cp_n, zN_add, zN_mul, zN_sub, zN_subm, zM_sub, zN_and, va_up_self, va_up_ne, j_add0, j_addt, ne_eq, not_false_eq_true, not_true_eq_false, Nat.reduceAdd, Nat.reduceSub, Nat.reduceMul, Nat.reduceMod, Nat.reduceEqDiff, q_g0_0, q_p0_0, q_g0_1, q_p0_1, q_g0_2, q_p0_2, q_g0_3, q_p0_3, q_g0_4, q_p0_4, q_g0_5, q_p0_5, q_g0_6, q_p0_6, q_g0_7, q_p0_7, q_g1_0, q_p1_0, q_g1_1, q_p1_1, q_g1_2, q_p1_2, q_g1_3, q_p1_3, q_g1_4, q_p1_4, q_g1_5, q_p1_5, q_g1_6, q_p1_6, q_g2_0, q_p2_0, q_g2_1, q_p2_1, q_g2_2, q_p2_2, q_g2_3, q_p2_3, q_g3_0, q_p3_0, q_g3_1, q_p3_1, q_g3_2, q_p3_2, q_g3_3, q_p3_3, q_g3_4, q_p3_4, q_g3_5, q_p3_5, q_g3_6, q_p3_6, q_g4_0, q_p4_0, q_g4_1, q_p4_1, q_g4_2, q_p4_2, q_g4_3, q_p4_3, q_g4_4, q_p4_4, q_g5_0, q_p5_0, q_g5_1, q_p5_1, q_g5_2, q_p5_2, q_g5_3, q_p5_3, q_g5_4, q_p5_4, q_g5_5, q_p5_5, q_g5_6, q_p5_6, q_g5_7, q_p5_7, q_g5_8, q_p5_8, q_g5_9, q_p5_9, q_g5_10, q_p5_10, q_g5_11, q_p5_11, q_g5_12, q_p5_12, q_g5_13, q_p5_13, q_g5_14, q_p5_14, q_g5_15, q_p5_15, h0]
theorem n_fails {x : Int32} (hN : isN M v w cnt u ln tx t an r) : ∃ M', Rn X d 102 0 [some (.ref 70), some (.int x)] [] M h = some (.inl (some (.int (zN 0))), M', h) ∧ isN M' v w cnt u ln tx x an r ∧ sm M M' 70 76 := by
  refine ⟨_, ?_, isN_th (t' := x) hN, fun a q => va_up_ne _ _ (by omega)⟩
  have h0 := hN.1
  simp (disch := first | exact cs_0 | exact cs_1 _ | exact cs_2 _ _ | exact cs_3 _ _ _ | exact cs_4 _ _ _ _ | exact j_one_i _ | exact j_one_r _ | exact j_one_n | omega) only [e102_0, e102_1, e102_2, e102_5, e102_6, q_k_v, q_k_n, q_k_x, q_kc_v, q_kc_n, q_kc_x, q_rc, q_eq_t, q_eq_f, q_eq_nm, q_eq_mn, q_eq_mt, q_eq_mf, q_lt_t, q_lt_f, q_lt_mn, q_lt_nm, q_le_t, q_le_f, q_le_mn, q_le_nm, q_ac_t, q_ac_f, q_dv_n, q_rm_n, q_ld_n, q_lB_n, q_lJ_n, q_st_n, q_sB_n, q_sJ_n, q_sQ_n, q_cp_n, zN_add, zN_mul, zN_sub, zN_subm, zM_sub, zN_and, va_up_self, va_up_ne, j_add0, j_addt, ne_eq, not_false_eq_true, not_true_eq_false, Nat.reduceAdd, Nat.reduceSub, Nat.reduceMul, Nat.reduceMod, Nat.reduceEqDiff, q_g0_0, q_p0_0, q_g0_1, q_p0_1, q_g0_2, q_p0_2, q_g0_3, q_p0_3, q_g0_4, q_p0_4, q_g0_5, q_p0_5, q_g0_6, q_p0_6, q_g0_7, q_p0_7, q_g1_0, q_p1_0, q_g1_1, q_p1_1, q_g1_2, q_p1_2, q_g1_3, q_p1_3, q_g1_4, q_p1_4, q_g1_5, q_p1_5, q_g1_6, q_p1_6, q_g2_0, q_p2_0, q_g2_1, q_p2_1, q_g2_2, q_p2_2, q_g2_3, q_p2_3, q_g3_0, q_p3_0, q_g3_1, q_p3_1, q_g3_2, q_p3_2, q_g3_3, q_p3_3, q_g3_4, q_p3_4, q_g3_5, q_p3_5, q_g3_6, q_p3_6, q_g4_0, q_p4_0, q_g4_1, q_p4_1, q_g4_2, q_p4_2, q_g4_3, q_p4_3, q_g4_4, q_p4_4, q_g5_0, q_p5_0, q_g5_1, q_p5_1, q_g5_2, q_p5_2, q_g5_3, q_p5_3, q_g5_4, q_p5_4, q_g5_5, q_p5_5, q_g5_6, q_p5_6, q_g5_7, q_p5_7, q_g5_8, q_p5_8, q_g5_9, q_p5_9, q_g5_10, q_p5_10, q_g5_11, q_p5_11, q_g5_12, q_p5_12, q_g5_13, q_p5_13, q_g5_14, q_p5_14, q_g5_15, q_p5_15, h0]
/-- the same for the object at rest -/
theorem isM_th {th' : Nat} {an x fa le fi se am : Int32} {hs : Int64} (hM : isM M v cnt u ln tx th) : isM (va_up M 70 (.inr (5, [.ref 71, .ref 72, .int (zN cnt), .ref 73, .ref 74, .int (zN ln), .ref 75, .int (zN th'), .int an, .int x, .int fa, .int le, .int fi, .int se, .int am, .long hs]))) v cnt u ln tx th' := by
  obtain ⟨-, ⟨N, h1, k1⟩, ⟨K, h2, k2⟩, ⟨A, h3⟩, ⟨T, h4, k4⟩, ⟨H, h5⟩, h6, h7⟩ := hM
  refine ⟨⟨an, x, fa, le, fi, se, am, hs, va_up_self _ _ _⟩, ⟨N, ?_, k1⟩, ⟨K, ?_, k2⟩, ⟨A, ?_⟩, ⟨T, ?_, k4⟩, ⟨H, ?_⟩, h6, h7⟩
  · rw [va_up_ne _ _ (by omega), h1]
  · rw [va_up_ne _ _ (by omega), h2]
  · rw [va_up_ne _ _ (by omega), h3]
  · rw [va_up_ne _ _ (by omega), h4]
  · rw [va_up_ne _ _ (by omega), h5]
theorem m_well {x : Int32} (hM : isM M v cnt u ln tx th) : ∃ M', Rn X d 103 0 [some (.ref 70), some (.int x)] [] M h = some (.inl (some (.int x)), M', h) ∧ isM M' v cnt u ln tx 0 ∧ sm M M' 70 76 := by
  obtain ⟨⟨an, x', fa, le, fi, se, am, hs, h0⟩, -⟩ := id hM
  refine ⟨_, ?_, isM_th (th' := 0) (an := an) (x := x') (fa := fa) (le := le) (fi := fi) (se := se) (am := am) (hs := hs) hM, fun a q => va_up_ne _ _ (by omega)⟩
  simp (disch := first | exact cs_0 | exact cs_1 _ | exact cs_2 _ _ | exact cs_3 _ _ _ | exact cs_4 _ _ _ _ | exact j_one_i _ | exact j_one_r _ | exact j_one_n | omega) only [e103_0, e103_1, e103_2, e103_5, e103_6, q_k_v, q_k_n, q_k_x, q_kc_v, q_kc_n, q_kc_x, q_rc, q_eq_t, q_eq_f, q_eq_nm, q_eq_mn, q_eq_mt, q_eq_mf, q_lt_t, q_lt_f, q_lt_mn, q_lt_nm, q_le_t, q_le_f, q_le_mn, q_le_nm, q_ac_t, q_ac_f, q_dv_n, q_rm_n, q_ld_n, q_lB_n, q_lJ_n, q_st_n, q_sB_n, q_sJ_n, q_sQ_n, q_cp_n, zN_add, zN_mul, zN_sub, zN_subm, zM_sub, zN_and, va_up_self, va_up_ne, j_add0, j_addt, ne_eq, not_false_eq_true, not_true_eq_false, Nat.reduceAdd, Nat.reduceSub, Nat.reduceMul, Nat.reduceMod, Nat.reduceEqDiff, q_g0_0, q_p0_0, q_g0_1, q_p0_1, q_g0_2, q_p0_2, q_g0_3, q_p0_3, q_g0_4, q_p0_4, q_g0_5, q_p0_5, q_g0_6, q_p0_6, q_g0_7, q_p0_7, q_g1_0, q_p1_0, q_g1_1, q_p1_1, q_g1_2, q_p1_2, q_g1_3, q_p1_3, q_g1_4, q_p1_4, q_g1_5, q_p1_5, q_g1_6, q_p1_6, q_g2_0, q_p2_0, q_g2_1, q_p2_1, q_g2_2, q_p2_2, q_g2_3, q_p2_3, q_g3_0, q_p3_0, q_g3_1, q_p3_1, q_g3_2, q_p3_2, q_g3_3, q_p3_3, q_g3_4, q_p3_4, q_g3_5, q_p3_5, q_g3_6, q_p3_6, q_g4_0, q_p4_0, q_g4_1, q_p4_1, q_g4_2, q_p4_2, q_g4_3, q_p4_3, q_g4_4, q_p4_4, q_g5_0, q_p5_0, q_g5_1, q_p5_1, q_g5_2, q_p5_2, q_g5_3, q_p5_3, q_g5_4, q_p5_4, q_g5_5, q_p5_5, q_g5_6, q_p5_6, q_g5_7, q_p5_7, q_g5_8, q_p5_8, q_g5_9, q_p5_9, q_g5_10, q_p5_10, q_g5_11, q_p5_11, q_g5_12, q_p5_12, q_g5_13, q_p5_13, q_g5_14, q_p5_14, q_g5_15, q_p5_15, h0]
theorem m_fails {k : Nat} (hM : isM M v cnt u ln tx th) : ∃ M', Rn X d 102 0 [some (.ref 70), some (.int (zN k))] [] M h = some (.inl (some (.int (zN 0))), M', h) ∧ isM M' v cnt u ln tx k ∧ sm M M' 70 76 := by
  obtain ⟨⟨an, x', fa, le, fi, se, am, hs, h0⟩, -⟩ := id hM
  refine ⟨_, ?_, isM_th (th' := k) (an := an) (x := x') (fa := fa) (le := le) (fi := fi) (se := se) (am := am) (hs := hs) hM, fun a q => va_up_ne _ _ (by omega)⟩
  simp (disch := first | exact cs_0 | exact cs_1 _ | exact cs_2 _ _ | exact cs_3 _ _ _ | exact cs_4 _ _ _ _ | exact j_one_i _ | exact j_one_r _ | exact j_one_n | omega) only [e102_0, e102_1, e102_2, e102_5, e102_6, q_k_v, q_k_n, q_k_x, q_kc_v, q_kc_n, q_kc_x, q_rc, q_eq_t, q_eq_f, q_eq_nm, q_eq_mn, q_eq_mt, q_eq_mf, q_lt_t, q_lt_f, q_lt_mn, q_lt_nm, q_le_t, q_le_f, q_le_mn, q_le_nm, q_ac_t, q_ac_f, q_dv_n, q_rm_n, q_ld_n, q_lB_n, q_lJ_n, q_st_n, q_sB_n, q_sJ_n, q_sQ_n, q_cp_n, zN_add, zN_mul, zN_sub, zN_subm, zM_sub, zN_and, va_up_self, va_up_ne, j_add0, j_addt, ne_eq, not_false_eq_true, not_true_eq_false, Nat.reduceAdd, Nat.reduceSub, Nat.reduceMul, Nat.reduceMod, Nat.reduceEqDiff, q_g0_0, q_p0_0, q_g0_1, q_p0_1, q_g0_2, q_p0_2, q_g0_3, q_p0_3, q_g0_4, q_p0_4, q_g0_5, q_p0_5, q_g0_6, q_p0_6, q_g0_7, q_p0_7, q_g1_0, q_p1_0, q_g1_1, q_p1_1, q_g1_2, q_p1_2, q_g1_3, q_p1_3, q_g1_4, q_p1_4, q_g1_5, q_p1_5, q_g1_6, q_p1_6, q_g2_0, q_p2_0, q_g2_1, q_p2_1, q_g2_2, q_p2_2, q_g2_3, q_p2_3, q_g3_0, q_p3_0, q_g3_1, q_p3_1, q_g3_2, q_p3_2, q_g3_3, q_p3_3, q_g3_4, q_p3_4, q_g3_5, q_p3_5, q_g3_6, q_p3_6, q_g4_0, q_p4_0, q_g4_1, q_p4_1, q_g4_2, q_p4_2, q_g4_3, q_p4_3, q_g4_4, q_p4_4, q_g5_0, q_p5_0, q_g5_1, q_p5_1, q_g5_2, q_p5_2, q_g5_3, q_p5_3, q_g5_4, q_p5_4, q_g5_5, q_p5_5, q_g5_6, q_p5_6, q_g5_7, q_p5_7, q_g5_8, q_p5_8, q_g5_9, q_p5_9, q_g5_10, q_p5_10, q_g5_11, q_p5_11, q_g5_12, q_p5_12, q_g5_13, q_p5_13, q_g5_14, q_p5_14, q_g5_15, q_p5_15, h0]
theorem n_ends (hN : isN M v w cnt u ln tx t an r) : ∃ M', Rn X (d + 1) 116 0 [some (.ref 70), some (.int (zN 0))] [] M h = some (.inl (some (.int an)), M', h) ∧ isM M' v (svC cnt) (svU u cnt w) ln tx 0 ∧ sm M M' 70 76 := by
  obtain ⟨M1, e1, N1, s1⟩ := n_sv (X := X) (d := d) (h := j_h0 h) hN
  have h0 := N1.1
  obtain ⟨M2, e2, N2, s2⟩ := n_well (X := X) (d := d) (h := j_h0 h) (x := an) N1
  refine ⟨M2, ?_, isN_M N2, sm_trans s1 s2⟩
  have g0 := hN.1
  simp (disch := first | exact cs_0 | exact cs_1 _ | exact cs_2 _ _ | exact cs_3 _ _ _ | exact cs_4 _ _ _ _ | exact j_one_i _ | exact j_one_r _ | exact j_one_n | omega) only [e116_0, e116_1, e116_4, e116_5, e116_6, e116_9, e116_10, e116_11, e116_14, e116_15, e116_16, e116_19, e116_22, q_k_v, q_k_n, q_k_x, q_kc_v, q_kc_n, q_kc_x, q_rc, q_eq_t, q_eq_f, q_eq_nm, q_eq_mn, q_eq_mt, q_eq_mf, q_lt_t, q_lt_f, q_lt_mn, q_lt_nm, q_le_t, q_le_f, q_le_mn, q_le_nm, q_ac_t, q_ac_f, q_dv_n, q_rm_n, q_ld_n, q_lB_n, q_lJ_n, q_st_n, q_sB_n, q_sJ_n, q_sQ_n, q_cp_n, zN_add, zN_mul, zN_sub, zN_subm, zM_sub, zN_and, va_up_self, va_up_ne, j_add0, j_addt, ne_eq, not_false_eq_true, not_true_eq_false, Nat.reduceAdd, Nat.reduceSub, Nat.reduceMul, Nat.reduceMod, Nat.reduceEqDiff, q_g0_0, q_p0_0, q_g0_1, q_p0_1, q_g0_2, q_p0_2, q_g0_3, q_p0_3, q_g0_4, q_p0_4, q_g0_5, q_p0_5, q_g0_6, q_p0_6, q_g0_7, q_p0_7, q_g1_0, q_p1_0, q_g1_1, q_p1_1, q_g1_2, q_p1_2, q_g1_3, q_p1_3, q_g1_4, q_p1_4, q_g1_5, q_p1_5, q_g1_6, q_p1_6, q_g2_0, q_p2_0, q_g2_1, q_p2_1, q_g2_2, q_p2_2, q_g2_3, q_p2_3, q_g3_0, q_p3_0, q_g3_1, q_p3_1, q_g3_2, q_p3_2, q_g3_3, q_p3_3, q_g3_4, q_p3_4, q_g3_5, q_p3_5, q_g3_6, q_p3_6, q_g4_0, q_p4_0, q_g4_1, q_p4_1, q_g4_2, q_p4_2, q_g4_3, q_p4_3, q_g4_4, q_p4_4, q_g5_0, q_p5_0, q_g5_1, q_p5_1, q_g5_2, q_p5_2, q_g5_3, q_p5_3, q_g5_4, q_p5_4, q_g5_5, q_p5_5, q_g5_6, q_p5_6, q_g5_7, q_p5_7, q_g5_8, q_p5_8, q_g5_9, q_p5_9, q_g5_10, q_p5_10, q_g5_11, q_p5_11, q_g5_12, q_p5_12, q_g5_13, q_p5_13, q_g5_14, q_p5_14, q_g5_15, q_p5_15, g0, e1, h0, e2]
theorem n_endsF {k : Nat} (hN : isN M v w cnt u ln tx t an r) (h1 : 1 ≤ k) (h2 : k < 10) : ∃ M', Rn X (d + 1) 116 0 [some (.ref 70), some (.int (zN k))] [] M h = some (.inl (some (.int (zN 0))), M', h) ∧ isM M' v cnt u ln tx k ∧ sm M M' 70 76 := by
  obtain ⟨M1, e1, N1, s1⟩ := n_fails (X := X) (d := d) (h := j_h0 h) (x := zN k) hN
  refine ⟨M1, ?_, isN_M N1, s1⟩
  have g0 := hN.1
  simp (disch := first | exact cs_0 | exact cs_1 _ | exact cs_2 _ _ | exact cs_3 _ _ _ | exact cs_4 _ _ _ _ | exact j_one_i _ | exact j_one_r _ | exact j_one_n | omega) only [e116_0, e116_1, e116_4, e116_5, e116_6, e116_9, e116_10, e116_11, e116_14, e116_15, e116_16, e116_19, e116_22, q_k_v, q_k_n, q_k_x, q_kc_v, q_kc_n, q_kc_x, q_rc, q_eq_t, q_eq_f, q_eq_nm, q_eq_mn, q_eq_mt, q_eq_mf, q_lt_t, q_lt_f, q_lt_mn, q_lt_nm, q_le_t, q_le_f, q_le_mn, q_le_nm, q_ac_t, q_ac_f, q_dv_n, q_rm_n, q_ld_n, q_lB_n, q_lJ_n, q_st_n, q_sB_n, q_sJ_n, q_sQ_n, q_cp_n, zN_add, zN_mul, zN_sub, zN_subm, zM_sub, zN_and, va_up_self, va_up_ne, j_add0, j_addt, ne_eq, not_false_eq_true, not_true_eq_false, Nat.reduceAdd, Nat.reduceSub, Nat.reduceMul, Nat.reduceMod, Nat.reduceEqDiff, q_g0_0, q_p0_0, q_g0_1, q_p0_1, q_g0_2, q_p0_2, q_g0_3, q_p0_3, q_g0_4, q_p0_4, q_g0_5, q_p0_5, q_g0_6, q_p0_6, q_g0_7, q_p0_7, q_g1_0, q_p1_0, q_g1_1, q_p1_1, q_g1_2, q_p1_2, q_g1_3, q_p1_3, q_g1_4, q_p1_4, q_g1_5, q_p1_5, q_g1_6, q_p1_6, q_g2_0, q_p2_0, q_g2_1, q_p2_1, q_g2_2, q_p2_2, q_g2_3, q_p2_3, q_g3_0, q_p3_0, q_g3_1, q_p3_1, q_g3_2, q_p3_2, q_g3_3, q_p3_3, q_g3_4, q_p3_4, q_g3_5, q_p3_5, q_g3_6, q_p3_6, q_g4_0, q_p4_0, q_g4_1, q_p4_1, q_g4_2, q_p4_2, q_g4_3, q_p4_3, q_g4_4, q_p4_4, q_g5_0, q_p5_0, q_g5_1, q_p5_1, q_g5_2, q_p5_2, q_g5_3, q_p5_3, q_g5_4, q_p5_4, q_g5_5, q_p5_5, q_g5_6, q_p5_6, q_g5_7, q_p5_7, q_g5_8, q_p5_8, q_g5_9, q_p5_9, q_g5_10, q_p5_10, q_g5_11, q_p5_11, q_g5_12, q_p5_12, q_g5_13, q_p5_13, q_g5_14, q_p5_14, q_g5_15, q_p5_15, g0, e1]
theorem n_writes {k a b n : Nat} (hN : isN M v w cnt u ln tx t an r) (hv : okV v B) (hB : B < 1000000000) (hk : k ≤ 4) (ha : a < 8) (hb : b < 8) (hn : 1 ≤ n) (hn' : n ≤ 99) (hab : 2 ≤ k → a ≠ b) (hf : v 2 - v 1 < v 0) :
    ∃ M', Rn X (d + 1) 122 0 [some (.ref 70), some (.int (zN k)), some (.int (zN a)), some (.int (zN b)), some (.int (zN n))] [] M h = some (.inl (some (.int (zN 0))), M', h) ∧ isN M' (wrR v k a b n) w cnt u ln tx t (zN (v 2)) r ∧ sm M M' 70 76 := by
  obtain ⟨h0, ⟨N, h1, k1⟩, -⟩ := id hN
  obtain ⟨N', e, rr⟩ := r_writes (X := X) (d := d) (h := h) h0 h1 k1 hv hB hk ha hb hn hn' hab hf
  obtain ⟨g1, g2⟩ := isN_set (an' := zN (v 2)) hN rr
  exact ⟨_, e, g1, g2⟩
theorem n_replays {s n : Nat} (hN : isN M v w cnt u ln tx t an r) (hv : okV v B) (hB : B < 1000000000) (hs2 : s < 2) (hn : 1 ≤ n) (hn' : n ≤ 99) :
    ∃ M', Rn X (d + 4) 123 0 [some (.ref 70), some (.int (zN s)), some (.int (zN n)), none, none] [] M h = some (.inl (some (.int (zN 0))), M', h) ∧ isN M' (rpF v (164 + 21 * s) (min n (could v (164 + 21 * s)))) w cnt u ln tx t (zN (min n (could v (164 + 21 * s)))) r ∧ sm M M' 70 76 := by
  obtain ⟨h0, ⟨N, h1, k1⟩, -⟩ := id hN
  obtain ⟨N', e, rr⟩ := r_replays (X := X) (d := d) (h := h) h0 h1 k1 hv hB hs2 hn hn'
  obtain ⟨g1, g2⟩ := isN_set (an' := zN (min n (could v (164 + 21 * s)))) hN rr
  exact ⟨_, e, g1, g2⟩
theorem n_snaps {s : Nat} (hN : isN M v w cnt u ln tx t an r) (hv : okV v B) (hB : B < 1000000000) (hs2 : s < 2) (hu : v (164 + 21 * s + 1) = 1) :
    ∃ M', Rn X (d + 2) 124 0 [some (.ref 70), some (.int (zN s)), none] [] M h = some (.inl (some (.int (zN 0))), M', h) ∧ isN M' (snF v (164 + 21 * s)) w cnt u ln tx t (zN (min (snR v (164 + 21 * s) 168) (snR v (164 + 21 * s) 189) - v 1)) r ∧ sm M M' 70 76 := by
  obtain ⟨h0, ⟨N, h1, k1⟩, -⟩ := id hN
  obtain ⟨N', e, rr⟩ := r_snaps (X := X) (d := d) (h := h) h0 h1 k1 hv hB hs2 hu
  obtain ⟨g1, g2⟩ := isN_set (an' := zN (min (snR v (164 + 21 * s) 168) (snR v (164 + 21 * s) 189) - v 1)) hN rr
  exact ⟨_, e, g1, g2⟩
theorem n_crashes {s : Nat} (hN : isN M v w cnt u ln tx t an r) (hv : okV v B) (hs2 : s < 2) :
    ∃ M', Rn X (d + 2) 125 0 [some (.ref 70), some (.int (zN s)), none] [] M h = some (.inl (some (.int (zN 0))), M', h) ∧ isN M' (crR v (164 + 21 * s)) w cnt u ln tx t (zN (v (164 + 21 * s) - v (164 + 21 * s + 4))) r ∧ sm M M' 70 76 := by
  obtain ⟨h0, ⟨N, h1, k1⟩, -⟩ := id hN
  obtain ⟨N', e, rr⟩ := r_crashes (X := X) (d := d) (h := h) h0 h1 k1 hv hs2
  obtain ⟨g1, g2⟩ := isN_set (an' := zN (v (164 + 21 * s) - v (164 + 21 * s + 4))) hN rr
  exact ⟨_, e, g1, g2⟩
end
