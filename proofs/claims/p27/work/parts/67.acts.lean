/-! the law's acts: one act by a cell -/
theorem i_and1 (x : Int32) : x &&& zN 1 = zN (x.toBitVec.toNat % 2) := by
  apply Int32.toBitVec_inj.mp
  rw [Int32.toBitVec_and, zN_bv, zN_bv]
  apply BitVec.eq_of_toNat_eq
  rw [BitVec.toNat_and, BitVec.toNat_ofNat, BitVec.toNat_ofNat]
  have := Nat.and_two_pow_sub_one_eq_mod x.toBitVec.toNat 1
  show x.toBitVec.toNat &&& (2 ^ 1 - 1) = _
  rw [this, Nat.mod_eq_of_lt (a := x.toBitVec.toNat % 2)]
  omega
theorem i_and7 (x : Int32) : x &&& zN 7 = zN (x.toBitVec.toNat % 8) := by
  apply Int32.toBitVec_inj.mp
  rw [Int32.toBitVec_and, zN_bv, zN_bv]
  apply BitVec.eq_of_toNat_eq
  rw [BitVec.toNat_and, BitVec.toNat_ofNat, BitVec.toNat_ofNat]
  have := Nat.and_two_pow_sub_one_eq_mod x.toBitVec.toNat 3
  show x.toBitVec.toNat &&& (2 ^ 3 - 1) = _
  rw [this, Nat.mod_eq_of_lt (a := x.toBitVec.toNat % 8)]
  omega
theorem i_and15 (x : Int32) : x &&& zN 15 = zN (x.toBitVec.toNat % 16) := by
  apply Int32.toBitVec_inj.mp
  rw [Int32.toBitVec_and, zN_bv, zN_bv]
  apply BitVec.eq_of_toNat_eq
  rw [BitVec.toNat_and, BitVec.toNat_ofNat, BitVec.toNat_ofNat]
  have := Nat.and_two_pow_sub_one_eq_mod x.toBitVec.toNat 4
  show x.toBitVec.toNat &&& (2 ^ 4 - 1) = _
  rw [this, Nat.mod_eq_of_lt (a := x.toBitVec.toNat % 16)]
  omega
theorem i_andM (x : Int32) : x &&& zN 2147483647 = zN (x.toBitVec.toNat % 2147483648) := by
  apply Int32.toBitVec_inj.mp
  rw [Int32.toBitVec_and, zN_bv, zN_bv]
  apply BitVec.eq_of_toNat_eq
  rw [BitVec.toNat_and, BitVec.toNat_ofNat, BitVec.toNat_ofNat]
  have := Nat.and_two_pow_sub_one_eq_mod x.toBitVec.toNat 31
  show x.toBitVec.toNat &&& (2 ^ 31 - 1) = _
  rw [this, Nat.mod_eq_of_lt (a := x.toBitVec.toNat % 2147483648)]
  omega
theorem zN_and1 (a : Nat) : zN a &&& zN 1 = zN (a % 2) := by
  rw [i_and1, zN_bv, BitVec.toNat_ofNat]
  congr 1
  omega
theorem zN_and7 (a : Nat) : zN a &&& zN 7 = zN (a % 8) := by
  rw [i_and7, zN_bv, BitVec.toNat_ofNat]
  congr 1
  omega
theorem zN_and15 (a : Nat) : zN a &&& zN 15 = zN (a % 16) := by
  rw [i_and15, zN_bv, BitVec.toNat_ofNat]
  congr 1
  omega
theorem zN_sh4 {a : Nat} (h : a < 2147483648) : zN a >>> (zN 4 &&& 31) = zN (a / 16) := by
  apply Int32.toInt_inj.mp
  have e : (zN a >>> (zN 4 &&& 31)).toInt = (zN a).toInt / 2 ^ 4 := by
    have e0 : (zN a >>> (zN 4 &&& 31)).toInt = ((zN a).toBitVec.sshiftRight' ((zN 4 &&& 31 : Int32).toBitVec.smod 32)).toInt := rfl
    have e1 : ((zN 4 &&& 31 : Int32).toBitVec.smod 32).toNat = 4 := by decide +kernel
    rw [e0, BitVec.toInt_sshiftRight', e1, Int.shiftRight_eq_div_pow]
    rfl
  rw [e, zN_toInt h, zN_toInt (by omega)]
  omega
theorem bits_or {s c : Nat} (hs : s < 4) (hc : c < 2) : 1 ≤ bits (s ||| 1 <<< c) ∧ bits (s ||| 1 <<< c) ≤ 2 := by
  obtain rfl | rfl | rfl | rfl : s = 0 ∨ s = 1 ∨ s = 2 ∨ s = 3 := by omega
  all_goals (obtain rfl | rfl : c = 0 ∨ c = 1 := by omega)
  all_goals decide
theorem rpr_le : ∀ n p (v : rw_), (rprN n p v).1 ≤ 2 * n := by
  intro n
  induction n with
  | zero => exact fun _ _ => Nat.le_refl _
  | succ n ih =>
    intro p v
    show (if knows v p then _ else _ : Nat × rw_).1 ≤ _
    split
    · have := ih (p + 1) (sp0 v p)
      have b : bits (od v p 4) ≤ 2 := by
        unfold bits
        split
        · omega
        · split <;> omega
      show bits (od v p 4) + (rprN n (p + 1) (sp0 v p)).1 ≤ _
      omega
    · have := ih (p + 1) v
      omega
section
variable {X : jX} {d : Nat} {M : jM} {h : jH} {v : rw_} {cnt ln B : Nat} {u : Nat → rw_} {tx : Nat → Nat} {H : Nat → rw_}
def acR (X : jX) (d : Nat) (M : jM) (h : jH) (B pc : Nat) (LS : jL) (ST : List Value) : Prop := ∃ (M' : jM) (v' : rw_) (cnt' : Nat) (u' : Nat → rw_) (ln' : Nat) (tx' : Nat → Nat) (H' : Nat → rw_) (k : Nat), k ≤ 2 ∧ Rn X (d + 10) 126 pc LS ST M h = some (.inl (some (.int (zN 1))), M', jT k h) ∧ isG M' v' cnt' u' ln' tx' (B + 400) H' ∧ sm M M' 0 70
theorem ac_0 {z : Nat} (hz : z < 2147483648) : Rn X (d + 10) 126 0 [some (.ref 0), some (.int (zN z)), none, none, none, none] [] M h = Rn X (d + 10) 126 29 [some (.ref 0), some (.int (zN z)), some (.int (zN (z / 16))), some (.int (zN (z / 16 % 2))), some (.int (zN (z / 16 / 2 % 8))), some (.int (zN (z / 16 / 16 % 8)))] [.int (zN (z % 16))] M h := by
  simp (disch := first | exact cs_0 | exact cs_1 _ | exact cs_2 _ _ | exact cs_3 _ _ _ | exact cs_4 _ _ _ _ | exact j_one_i _ | exact j_one_r _ | exact j_one_n | assumption | omega) only [e126_0, e126_1, e126_2, e126_3, e126_4, e126_5, e126_6, e126_7, e126_8, e126_9, e126_10, e126_11, e126_13, e126_14, e126_16, e126_17, e126_19, e126_20, e126_22, e126_23, e126_25, e126_26, e126_28, q_k_v, q_k_n, q_k_x, q_kc_v, q_kc_n, q_kc_x, q_rc, q_eq_t, q_eq_f, q_eq_nm, q_eq_mn, q_eq_mt, q_eq_mf, q_lt_t, q_lt_f, q_lt_mn, q_lt_nm, q_le_t, q_le_f, q_le_mn, q_le_nm, q_ac_t, q_ac_f, q_dv_n, q_rm_n, q_ld_n, q_lB_n, q_lJ_n, q_st_n, q_sB_n, q_sJ_n, q_sQ_n, q_cp_n, zN_add, zN_mul, zN_sub, zN_subm, zM_sub, zN_and, va_up_self, va_up_ne, j_add0, j_addt, ne_eq, not_false_eq_true, not_true_eq_false, Nat.reduceAdd, Nat.reduceSub, Nat.reduceMul, Nat.reduceMod, Nat.reduceEqDiff, q_g0_0, q_p0_0, q_g0_1, q_p0_1, q_g0_2, q_p0_2, q_g0_3, q_p0_3, q_g0_4, q_p0_4, q_g0_5, q_p0_5, q_g0_6, q_p0_6, q_g0_7, q_p0_7, q_g1_0, q_p1_0, q_g1_1, q_p1_1, q_g1_2, q_p1_2, q_g1_3, q_p1_3, q_g1_4, q_p1_4, q_g1_5, q_p1_5, q_g1_6, q_p1_6, q_g2_0, q_p2_0, q_g2_1, q_p2_1, q_g2_2, q_p2_2, q_g2_3, q_p2_3, q_g3_0, q_p3_0, q_g3_1, q_p3_1, q_g3_2, q_p3_2, q_g3_3, q_p3_3, q_g3_4, q_p3_4, q_g3_5, q_p3_5, q_g3_6, q_p3_6, q_g4_0, q_p4_0, q_g4_1, q_p4_1, q_g4_2, q_p4_2, q_g4_3, q_p4_3, q_g4_4, q_p4_4, q_g5_0, q_p5_0, q_g5_1, q_p5_1, q_g5_2, q_p5_2, q_g5_3, q_p5_3, q_g5_4, q_p5_4, q_g5_5, q_p5_5, q_g5_6, q_p5_6, q_g5_7, q_p5_7, q_g5_8, q_p5_8, q_g5_9, q_p5_9, q_g5_10, q_p5_10, q_g5_11, q_p5_11, q_g5_12, q_p5_12, q_g5_13, q_p5_13, q_g5_14, q_p5_14, q_g5_15, q_p5_15, zN_sh4, zN_and1, zN_and7, zN_and15]
theorem ac_w {z V s a b : Nat} (hG : isG M v cnt u ln tx B H) (hB : B + 2000 < 1000000000) (hV : V < 2147483648) (hs : s < 2) (ha : a < 8) (hb : b < 8) : acR X d M h B 104 [some (.ref 0), some (.int (zN z)), some (.int (zN V)), some (.int (zN s)), some (.int (zN a)), some (.int (zN b))] [] := by
  have a0 := isJ_0 hG.1.1
  obtain ⟨k, hk⟩ : ∃ k, k = V / 128 % 5 := ⟨_, rfl⟩
  obtain ⟨n, hn⟩ : ∃ n, n = 1 + V / 1024 % 99 := ⟨_, rfl⟩
  have hk' := hk.symm
  have hn' := hn.symm
  have hv2 : v 2 ≤ B := hG.2.1.1.2.2.2.2.1
  by_cases c : 2 ≤ k ∧ a = b
  · have e := fun (h : jH) => wx_103_A (X := X) (d := d + 1) (M := M) (h := h) a0 (x63_a (nOrd (k := k) (a := a) (b := b) (n := n) (by omega) (by omega)))
    refine ⟨M, v, cnt, u, ln, tx, H, 1, by omega, ?_, isG_w hG (by omega), sm_rfl⟩
    rw [← jT_1]
    simp (disch := first | exact cs_0 | exact cs_1 _ | exact cs_2 _ _ | exact cs_3 _ _ _ | exact cs_4 _ _ _ _ | exact j_one_i _ | exact j_one_r _ | exact j_one_n | assumption | omega) only [e126_104, e126_105, e126_106, e126_109, e126_110, e126_111, e126_112, e126_114, e126_116, e126_117, e126_118, e126_121, e126_122, e126_124, e126_125, e126_126, e126_129, e126_131, e126_134, e126_135, e126_138, e126_139, q_k_v, q_k_n, q_k_x, q_kc_v, q_kc_n, q_kc_x, q_rc, q_eq_t, q_eq_f, q_eq_nm, q_eq_mn, q_eq_mt, q_eq_mf, q_lt_t, q_lt_f, q_lt_mn, q_lt_nm, q_le_t, q_le_f, q_le_mn, q_le_nm, q_ac_t, q_ac_f, q_dv_n, q_rm_n, q_ld_n, q_lB_n, q_lJ_n, q_st_n, q_sB_n, q_sJ_n, q_sQ_n, q_cp_n, zN_add, zN_mul, zN_sub, zN_subm, zM_sub, zN_and, va_up_self, va_up_ne, j_add0, j_addt, ne_eq, not_false_eq_true, not_true_eq_false, Nat.reduceAdd, Nat.reduceSub, Nat.reduceMul, Nat.reduceMod, Nat.reduceEqDiff, q_g0_0, q_p0_0, q_g0_1, q_p0_1, q_g0_2, q_p0_2, q_g0_3, q_p0_3, q_g0_4, q_p0_4, q_g0_5, q_p0_5, q_g0_6, q_p0_6, q_g0_7, q_p0_7, q_g1_0, q_p1_0, q_g1_1, q_p1_1, q_g1_2, q_p1_2, q_g1_3, q_p1_3, q_g1_4, q_p1_4, q_g1_5, q_p1_5, q_g1_6, q_p1_6, q_g2_0, q_p2_0, q_g2_1, q_p2_1, q_g2_2, q_p2_2, q_g2_3, q_p2_3, q_g3_0, q_p3_0, q_g3_1, q_p3_1, q_g3_2, q_p3_2, q_g3_3, q_p3_3, q_g3_4, q_p3_4, q_g3_5, q_p3_5, q_g3_6, q_p3_6, q_g4_0, q_p4_0, q_g4_1, q_p4_1, q_g4_2, q_p4_2, q_g4_3, q_p4_3, q_g4_4, q_p4_4, q_g5_0, q_p5_0, q_g5_1, q_p5_1, q_g5_2, q_p5_2, q_g5_3, q_p5_3, q_g5_4, q_p5_4, q_g5_5, q_p5_5, q_g5_6, q_p5_6, q_g5_7, q_p5_7, q_g5_8, q_p5_8, q_g5_9, q_p5_9, q_g5_10, q_p5_10, q_g5_11, q_p5_11, q_g5_12, q_p5_12, q_g5_13, q_p5_13, q_g5_14, q_p5_14, q_g5_15, q_p5_15, j_addt, hk', hn', e, q_lt_mm]
  · by_cases c2 : v 0 ≤ v 2 - v 1
    · have e := fun (h : jH) => wx_103_S (X := X) (d := d + 1) (M := M) (h := h) a0 (x63_f (k := k) (a := a) (b := b) (n := n) hG.1 hG.2.1.1 (by omega) (by omega) ha hb (by omega) (by omega) (by omega) c2)
      refine ⟨M, v, cnt, u, ln, tx, H, 1, by omega, ?_, isG_w hG (by omega), sm_rfl⟩
      rw [← jT_1]
      simp (disch := first | exact cs_0 | exact cs_1 _ | exact cs_2 _ _ | exact cs_3 _ _ _ | exact cs_4 _ _ _ _ | exact j_one_i _ | exact j_one_r _ | exact j_one_n | assumption | omega) only [e126_104, e126_105, e126_106, e126_109, e126_110, e126_111, e126_112, e126_114, e126_116, e126_117, e126_118, e126_121, e126_122, e126_124, e126_125, e126_126, e126_129, e126_131, e126_134, e126_135, e126_138, e126_139, q_k_v, q_k_n, q_k_x, q_kc_v, q_kc_n, q_kc_x, q_rc, q_eq_t, q_eq_f, q_eq_nm, q_eq_mn, q_eq_mt, q_eq_mf, q_lt_t, q_lt_f, q_lt_mn, q_lt_nm, q_le_t, q_le_f, q_le_mn, q_le_nm, q_ac_t, q_ac_f, q_dv_n, q_rm_n, q_ld_n, q_lB_n, q_lJ_n, q_st_n, q_sB_n, q_sJ_n, q_sQ_n, q_cp_n, zN_add, zN_mul, zN_sub, zN_subm, zM_sub, zN_and, va_up_self, va_up_ne, j_add0, j_addt, ne_eq, not_false_eq_true, not_true_eq_false, Nat.reduceAdd, Nat.reduceSub, Nat.reduceMul, Nat.reduceMod, Nat.reduceEqDiff, q_g0_0, q_p0_0, q_g0_1, q_p0_1, q_g0_2, q_p0_2, q_g0_3, q_p0_3, q_g0_4, q_p0_4, q_g0_5, q_p0_5, q_g0_6, q_p0_6, q_g0_7, q_p0_7, q_g1_0, q_p1_0, q_g1_1, q_p1_1, q_g1_2, q_p1_2, q_g1_3, q_p1_3, q_g1_4, q_p1_4, q_g1_5, q_p1_5, q_g1_6, q_p1_6, q_g2_0, q_p2_0, q_g2_1, q_p2_1, q_g2_2, q_p2_2, q_g2_3, q_p2_3, q_g3_0, q_p3_0, q_g3_1, q_p3_1, q_g3_2, q_p3_2, q_g3_3, q_p3_3, q_g3_4, q_p3_4, q_g3_5, q_p3_5, q_g3_6, q_p3_6, q_g4_0, q_p4_0, q_g4_1, q_p4_1, q_g4_2, q_p4_2, q_g4_3, q_p4_3, q_g4_4, q_p4_4, q_g5_0, q_p5_0, q_g5_1, q_p5_1, q_g5_2, q_p5_2, q_g5_3, q_p5_3, q_g5_4, q_p5_4, q_g5_5, q_p5_5, q_g5_6, q_p5_6, q_g5_7, q_p5_7, q_g5_8, q_p5_8, q_g5_9, q_p5_9, q_g5_10, q_p5_10, q_g5_11, q_p5_11, q_g5_12, q_p5_12, q_g5_13, q_p5_13, q_g5_14, q_p5_14, q_g5_15, q_p5_15, j_addt, hk', hn', e, q_lt_mm]
    · obtain ⟨M1, H1, e1, G1, s1⟩ := g_write (X := X) (d := d + 1) (h := j_h0 h) (k := k) (a := a) (b := b) (n := n) hG (by omega) (by omega) ha hb (by omega) (by omega) (by omega) (by omega)
      refine ⟨M1, _, _, _, _, _, H1, 0, by omega, ?_, isG_w G1 (by omega), s1⟩
      rw [jT_0]
      simp (disch := first | exact cs_0 | exact cs_1 _ | exact cs_2 _ _ | exact cs_3 _ _ _ | exact cs_4 _ _ _ _ | exact j_one_i _ | exact j_one_r _ | exact j_one_n | assumption | omega) only [e126_104, e126_105, e126_106, e126_109, e126_110, e126_111, e126_112, e126_114, e126_116, e126_117, e126_118, e126_121, e126_122, e126_124, e126_125, e126_126, e126_129, e126_131, e126_134, e126_135, e126_138, e126_139, q_k_v, q_k_n, q_k_x, q_kc_v, q_kc_n, q_kc_x, q_rc, q_eq_t, q_eq_f, q_eq_nm, q_eq_mn, q_eq_mt, q_eq_mf, q_lt_t, q_lt_f, q_lt_mn, q_lt_nm, q_le_t, q_le_f, q_le_mn, q_le_nm, q_ac_t, q_ac_f, q_dv_n, q_rm_n, q_ld_n, q_lB_n, q_lJ_n, q_st_n, q_sB_n, q_sJ_n, q_sQ_n, q_cp_n, zN_add, zN_mul, zN_sub, zN_subm, zM_sub, zN_and, va_up_self, va_up_ne, j_add0, j_addt, ne_eq, not_false_eq_true, not_true_eq_false, Nat.reduceAdd, Nat.reduceSub, Nat.reduceMul, Nat.reduceMod, Nat.reduceEqDiff, q_g0_0, q_p0_0, q_g0_1, q_p0_1, q_g0_2, q_p0_2, q_g0_3, q_p0_3, q_g0_4, q_p0_4, q_g0_5, q_p0_5, q_g0_6, q_p0_6, q_g0_7, q_p0_7, q_g1_0, q_p1_0, q_g1_1, q_p1_1, q_g1_2, q_p1_2, q_g1_3, q_p1_3, q_g1_4, q_p1_4, q_g1_5, q_p1_5, q_g1_6, q_p1_6, q_g2_0, q_p2_0, q_g2_1, q_p2_1, q_g2_2, q_p2_2, q_g2_3, q_p2_3, q_g3_0, q_p3_0, q_g3_1, q_p3_1, q_g3_2, q_p3_2, q_g3_3, q_p3_3, q_g3_4, q_p3_4, q_g3_5, q_p3_5, q_g3_6, q_p3_6, q_g4_0, q_p4_0, q_g4_1, q_p4_1, q_g4_2, q_p4_2, q_g4_3, q_p4_3, q_g4_4, q_p4_4, q_g5_0, q_p5_0, q_g5_1, q_p5_1, q_g5_2, q_p5_2, q_g5_3, q_p5_3, q_g5_4, q_p5_4, q_g5_5, q_p5_5, q_g5_6, q_p5_6, q_g5_7, q_p5_7, q_g5_8, q_p5_8, q_g5_9, q_p5_9, q_g5_10, q_p5_10, q_g5_11, q_p5_11, q_g5_12, q_p5_12, q_g5_13, q_p5_13, q_g5_14, q_p5_14, q_g5_15, q_p5_15, hk', hn', e1]
theorem ac_rs {z V s a b : Nat} (hG : isG M v cnt u ln tx B H) (hB : B + 2000 < 1000000000) (hV : V < 2147483648) (hs : s < 2) (ha : a < 8) (hb : b < 8) : acR X d M h B 140 [some (.ref 0), some (.int (zN z)), some (.int (zN V)), some (.int (zN s)), some (.int (zN a)), some (.int (zN b))] [] := by
  obtain ⟨M1, v1, cnt1, u1, e1, G1, s1⟩ := g_replays (X := X) (d := d) (h := j_h0 h) (s := s) (n := 1 + V / 2 % 9) hG (by omega) hs (by omega) (by omega)
  refine ⟨M1, _, _, _, _, _, H, 0, by omega, ?_, G1, s1⟩
  rw [jT_0]
  simp (disch := first | exact cs_0 | exact cs_1 _ | exact cs_2 _ _ | exact cs_3 _ _ _ | exact cs_4 _ _ _ _ | exact j_one_i _ | exact j_one_r _ | exact j_one_n | assumption | omega) only [e126_140, e126_141, e126_142, e126_143, e126_144, e126_145, e126_146, e126_148, e126_149, e126_150, e126_153, q_k_v, q_k_n, q_k_x, q_kc_v, q_kc_n, q_kc_x, q_rc, q_eq_t, q_eq_f, q_eq_nm, q_eq_mn, q_eq_mt, q_eq_mf, q_lt_t, q_lt_f, q_lt_mn, q_lt_nm, q_le_t, q_le_f, q_le_mn, q_le_nm, q_ac_t, q_ac_f, q_dv_n, q_rm_n, q_ld_n, q_lB_n, q_lJ_n, q_st_n, q_sB_n, q_sJ_n, q_sQ_n, q_cp_n, zN_add, zN_mul, zN_sub, zN_subm, zM_sub, zN_and, va_up_self, va_up_ne, j_add0, j_addt, ne_eq, not_false_eq_true, not_true_eq_false, Nat.reduceAdd, Nat.reduceSub, Nat.reduceMul, Nat.reduceMod, Nat.reduceEqDiff, q_g0_0, q_p0_0, q_g0_1, q_p0_1, q_g0_2, q_p0_2, q_g0_3, q_p0_3, q_g0_4, q_p0_4, q_g0_5, q_p0_5, q_g0_6, q_p0_6, q_g0_7, q_p0_7, q_g1_0, q_p1_0, q_g1_1, q_p1_1, q_g1_2, q_p1_2, q_g1_3, q_p1_3, q_g1_4, q_p1_4, q_g1_5, q_p1_5, q_g1_6, q_p1_6, q_g2_0, q_p2_0, q_g2_1, q_p2_1, q_g2_2, q_p2_2, q_g2_3, q_p2_3, q_g3_0, q_p3_0, q_g3_1, q_p3_1, q_g3_2, q_p3_2, q_g3_3, q_p3_3, q_g3_4, q_p3_4, q_g3_5, q_p3_5, q_g3_6, q_p3_6, q_g4_0, q_p4_0, q_g4_1, q_p4_1, q_g4_2, q_p4_2, q_g4_3, q_p4_3, q_g4_4, q_p4_4, q_g5_0, q_p5_0, q_g5_1, q_p5_1, q_g5_2, q_p5_2, q_g5_3, q_p5_3, q_g5_4, q_p5_4, q_g5_5, q_p5_5, q_g5_6, q_p5_6, q_g5_7, q_p5_7, q_g5_8, q_p5_8, q_g5_9, q_p5_9, q_g5_10, q_p5_10, q_g5_11, q_p5_11, q_g5_12, q_p5_12, q_g5_13, q_p5_13, q_g5_14, q_p5_14, q_g5_15, q_p5_15, e1]
theorem ac_rp {z V s a b : Nat} (hG : isG M v cnt u ln tx B H) (hB : B + 2000 < 1000000000) (hV : V < 2147483648) (hs : s < 2) (ha : a < 8) (hb : b < 8) : acR X d M h B 154 [some (.ref 0), some (.int (zN z)), some (.int (zN V)), some (.int (zN s)), some (.int (zN a)), some (.int (zN b))] [] := by
  obtain ⟨M1, e1, G1, s1⟩ := g_replay (X := X) (d := d + 1) (h := j_h0 h) (s := s) (n := 1 + V / 2 % 20) hG (by omega) hs (by omega) (by omega)
  refine ⟨M1, _, _, _, _, _, H, 0, by omega, ?_, isG_w G1 (by omega), s1⟩
  rw [jT_0]
  simp (disch := first | exact cs_0 | exact cs_1 _ | exact cs_2 _ _ | exact cs_3 _ _ _ | exact cs_4 _ _ _ _ | exact j_one_i _ | exact j_one_r _ | exact j_one_n | assumption | omega) only [e126_154, e126_155, e126_156, e126_157, e126_158, e126_159, e126_160, e126_162, e126_163, e126_164, e126_167, e126_170, e126_171, e126_174, e126_175, q_k_v, q_k_n, q_k_x, q_kc_v, q_kc_n, q_kc_x, q_rc, q_eq_t, q_eq_f, q_eq_nm, q_eq_mn, q_eq_mt, q_eq_mf, q_lt_t, q_lt_f, q_lt_mn, q_lt_nm, q_le_t, q_le_f, q_le_mn, q_le_nm, q_ac_t, q_ac_f, q_dv_n, q_rm_n, q_ld_n, q_lB_n, q_lJ_n, q_st_n, q_sB_n, q_sJ_n, q_sQ_n, q_cp_n, zN_add, zN_mul, zN_sub, zN_subm, zM_sub, zN_and, va_up_self, va_up_ne, j_add0, j_addt, ne_eq, not_false_eq_true, not_true_eq_false, Nat.reduceAdd, Nat.reduceSub, Nat.reduceMul, Nat.reduceMod, Nat.reduceEqDiff, q_g0_0, q_p0_0, q_g0_1, q_p0_1, q_g0_2, q_p0_2, q_g0_3, q_p0_3, q_g0_4, q_p0_4, q_g0_5, q_p0_5, q_g0_6, q_p0_6, q_g0_7, q_p0_7, q_g1_0, q_p1_0, q_g1_1, q_p1_1, q_g1_2, q_p1_2, q_g1_3, q_p1_3, q_g1_4, q_p1_4, q_g1_5, q_p1_5, q_g1_6, q_p1_6, q_g2_0, q_p2_0, q_g2_1, q_p2_1, q_g2_2, q_p2_2, q_g2_3, q_p2_3, q_g3_0, q_p3_0, q_g3_1, q_p3_1, q_g3_2, q_p3_2, q_g3_3, q_p3_3, q_g3_4, q_p3_4, q_g3_5, q_p3_5, q_g3_6, q_p3_6, q_g4_0, q_p4_0, q_g4_1, q_p4_1, q_g4_2, q_p4_2, q_g4_3, q_p4_3, q_g4_4, q_p4_4, q_g5_0, q_p5_0, q_g5_1, q_p5_1, q_g5_2, q_p5_2, q_g5_3, q_p5_3, q_g5_4, q_p5_4, q_g5_5, q_p5_5, q_g5_6, q_p5_6, q_g5_7, q_p5_7, q_g5_8, q_p5_8, q_g5_9, q_p5_9, q_g5_10, q_p5_10, q_g5_11, q_p5_11, q_g5_12, q_p5_12, q_g5_13, q_p5_13, q_g5_14, q_p5_14, q_g5_15, q_p5_15, e1]
theorem ac_sn {z V s a b : Nat} (hG : isG M v cnt u ln tx B H) (hB : B + 2000 < 1000000000) (hV : V < 2147483648) (hs : s < 2) (ha : a < 8) (hb : b < 8) : acR X d M h B 176 [some (.ref 0), some (.int (zN z)), some (.int (zN V)), some (.int (zN s)), some (.int (zN a)), some (.int (zN b))] [] := by
  obtain ⟨M1, v1, cnt1, u1, k, hk, e1, G1, s1⟩ := g_snaps (X := X) (d := d) (h := j_h0 h) (s := s) hG (by omega) hs
  refine ⟨M1, _, _, _, _, _, H, k, by omega, ?_, isG_w G1 (by omega), s1⟩
  simp (disch := first | exact cs_0 | exact cs_1 _ | exact cs_2 _ _ | exact cs_3 _ _ _ | exact cs_4 _ _ _ _ | exact j_one_i _ | exact j_one_r _ | exact j_one_n | assumption | omega) only [e126_176, e126_177, e126_178, e126_181, q_k_v, q_k_n, q_k_x, q_kc_v, q_kc_n, q_kc_x, q_rc, q_eq_t, q_eq_f, q_eq_nm, q_eq_mn, q_eq_mt, q_eq_mf, q_lt_t, q_lt_f, q_lt_mn, q_lt_nm, q_le_t, q_le_f, q_le_mn, q_le_nm, q_ac_t, q_ac_f, q_dv_n, q_rm_n, q_ld_n, q_lB_n, q_lJ_n, q_st_n, q_sB_n, q_sJ_n, q_sQ_n, q_cp_n, zN_add, zN_mul, zN_sub, zN_subm, zM_sub, zN_and, va_up_self, va_up_ne, j_add0, j_addt, ne_eq, not_false_eq_true, not_true_eq_false, Nat.reduceAdd, Nat.reduceSub, Nat.reduceMul, Nat.reduceMod, Nat.reduceEqDiff, q_g0_0, q_p0_0, q_g0_1, q_p0_1, q_g0_2, q_p0_2, q_g0_3, q_p0_3, q_g0_4, q_p0_4, q_g0_5, q_p0_5, q_g0_6, q_p0_6, q_g0_7, q_p0_7, q_g1_0, q_p1_0, q_g1_1, q_p1_1, q_g1_2, q_p1_2, q_g1_3, q_p1_3, q_g1_4, q_p1_4, q_g1_5, q_p1_5, q_g1_6, q_p1_6, q_g2_0, q_p2_0, q_g2_1, q_p2_1, q_g2_2, q_p2_2, q_g2_3, q_p2_3, q_g3_0, q_p3_0, q_g3_1, q_p3_1, q_g3_2, q_p3_2, q_g3_3, q_p3_3, q_g3_4, q_p3_4, q_g3_5, q_p3_5, q_g3_6, q_p3_6, q_g4_0, q_p4_0, q_g4_1, q_p4_1, q_g4_2, q_p4_2, q_g4_3, q_p4_3, q_g4_4, q_p4_4, q_g5_0, q_p5_0, q_g5_1, q_p5_1, q_g5_2, q_p5_2, q_g5_3, q_p5_3, q_g5_4, q_p5_4, q_g5_5, q_p5_5, q_g5_6, q_p5_6, q_g5_7, q_p5_7, q_g5_8, q_p5_8, q_g5_9, q_p5_9, q_g5_10, q_p5_10, q_g5_11, q_p5_11, q_g5_12, q_p5_12, q_g5_13, q_p5_13, q_g5_14, q_p5_14, q_g5_15, q_p5_15, e1, jT_a]
theorem ac_sp {z V s a b : Nat} (hG : isG M v cnt u ln tx B H) (hB : B + 2000 < 1000000000) (hV : V < 2147483648) (hs : s < 2) (ha : a < 8) (hb : b < 8) : acR X d M h B 182 [some (.ref 0), some (.int (zN z)), some (.int (zN V)), some (.int (zN s)), some (.int (zN a)), some (.int (zN b))] [] := by
  obtain ⟨q0, q1, q2, q3, q4, q5, -⟩ := id hG.2.1.1
  by_cases c : v 2 - v 1 = 0
  · refine ⟨M, v, cnt, u, ln, tx, H, 0, by omega, ?_, isG_w hG (by omega), sm_rfl⟩
    rw [jT_0]
    simp (disch := first | exact cs_0 | exact cs_1 _ | exact cs_2 _ _ | exact cs_3 _ _ _ | exact cs_4 _ _ _ _ | exact j_one_i _ | exact j_one_r _ | exact j_one_n | assumption | omega) only [e126_182, e126_183, e126_184, e126_187, e126_190, e126_191, e126_192, e126_193, e126_196, e126_197, e126_198, e126_199, e126_200, e126_201, e126_204, e126_205, e126_206, e126_207, e126_210, e126_211, e126_214, e126_215, e126_218, e126_219, q_k_v, q_k_n, q_k_x, q_kc_v, q_kc_n, q_kc_x, q_rc, q_eq_t, q_eq_f, q_eq_nm, q_eq_mn, q_eq_mt, q_eq_mf, q_lt_t, q_lt_f, q_lt_mn, q_lt_nm, q_le_t, q_le_f, q_le_mn, q_le_nm, q_ac_t, q_ac_f, q_dv_n, q_rm_n, q_ld_n, q_lB_n, q_lJ_n, q_st_n, q_sB_n, q_sJ_n, q_sQ_n, q_cp_n, zN_add, zN_mul, zN_sub, zN_subm, zM_sub, zN_and, va_up_self, va_up_ne, j_add0, j_addt, ne_eq, not_false_eq_true, not_true_eq_false, Nat.reduceAdd, Nat.reduceSub, Nat.reduceMul, Nat.reduceMod, Nat.reduceEqDiff, q_g0_0, q_p0_0, q_g0_1, q_p0_1, q_g0_2, q_p0_2, q_g0_3, q_p0_3, q_g0_4, q_p0_4, q_g0_5, q_p0_5, q_g0_6, q_p0_6, q_g0_7, q_p0_7, q_g1_0, q_p1_0, q_g1_1, q_p1_1, q_g1_2, q_p1_2, q_g1_3, q_p1_3, q_g1_4, q_p1_4, q_g1_5, q_p1_5, q_g1_6, q_p1_6, q_g2_0, q_p2_0, q_g2_1, q_p2_1, q_g2_2, q_p2_2, q_g2_3, q_p2_3, q_g3_0, q_p3_0, q_g3_1, q_p3_1, q_g3_2, q_p3_2, q_g3_3, q_p3_3, q_g3_4, q_p3_4, q_g3_5, q_p3_5, q_g3_6, q_p3_6, q_g4_0, q_p4_0, q_g4_1, q_p4_1, q_g4_2, q_p4_2, q_g4_3, q_p4_3, q_g4_4, q_p4_4, q_g5_0, q_p5_0, q_g5_1, q_p5_1, q_g5_2, q_p5_2, q_g5_3, q_p5_3, q_g5_4, q_p5_4, q_g5_5, q_p5_5, q_g5_6, q_p5_6, q_g5_7, q_p5_7, q_g5_8, q_p5_8, q_g5_9, q_p5_9, q_g5_10, q_p5_10, q_g5_11, q_p5_11, q_g5_12, q_p5_12, q_g5_13, q_p5_13, q_g5_14, q_p5_14, q_g5_15, q_p5_15, g_v3 (d := d + 1) hG (by omega)]
  · obtain ⟨p, hp⟩ : ∃ p, p = v 1 + V / 2 % (v 2 - v 1) := ⟨_, rfl⟩
    have hp' := hp.symm
    have hm : V / 2 % (v 2 - v 1) < v 2 - v 1 := Nat.mod_lt _ (by omega)
    obtain ⟨M1, e1, G1, s1⟩ := g_spoil (X := X) (d := d + 1) (h := j_h0 h) (p := p) (c := s) hG (by omega) (by omega) (by omega) hs
    have hb2 := bits_or (q5 p (by omega) (by omega)).2.2.2.2.2.2 hs
    refine ⟨M1, _, _, _, _, _, H, 0, by omega, ?_, isG_w G1 (by omega), s1⟩
    rw [jT_0]
    simp (disch := first | exact cs_0 | exact cs_1 _ | exact cs_2 _ _ | exact cs_3 _ _ _ | exact cs_4 _ _ _ _ | exact j_one_i _ | exact j_one_r _ | exact j_one_n | assumption | omega) only [e126_182, e126_183, e126_184, e126_187, e126_190, e126_191, e126_192, e126_193, e126_196, e126_197, e126_198, e126_199, e126_200, e126_201, e126_204, e126_205, e126_206, e126_207, e126_210, e126_211, e126_214, e126_215, e126_218, e126_219, q_k_v, q_k_n, q_k_x, q_kc_v, q_kc_n, q_kc_x, q_rc, q_eq_t, q_eq_f, q_eq_nm, q_eq_mn, q_eq_mt, q_eq_mf, q_lt_t, q_lt_f, q_lt_mn, q_lt_nm, q_le_t, q_le_f, q_le_mn, q_le_nm, q_ac_t, q_ac_f, q_dv_n, q_rm_n, q_ld_n, q_lB_n, q_lJ_n, q_st_n, q_sB_n, q_sJ_n, q_sQ_n, q_cp_n, zN_add, zN_mul, zN_sub, zN_subm, zM_sub, zN_and, va_up_self, va_up_ne, j_add0, j_addt, ne_eq, not_false_eq_true, not_true_eq_false, Nat.reduceAdd, Nat.reduceSub, Nat.reduceMul, Nat.reduceMod, Nat.reduceEqDiff, q_g0_0, q_p0_0, q_g0_1, q_p0_1, q_g0_2, q_p0_2, q_g0_3, q_p0_3, q_g0_4, q_p0_4, q_g0_5, q_p0_5, q_g0_6, q_p0_6, q_g0_7, q_p0_7, q_g1_0, q_p1_0, q_g1_1, q_p1_1, q_g1_2, q_p1_2, q_g1_3, q_p1_3, q_g1_4, q_p1_4, q_g1_5, q_p1_5, q_g1_6, q_p1_6, q_g2_0, q_p2_0, q_g2_1, q_p2_1, q_g2_2, q_p2_2, q_g2_3, q_p2_3, q_g3_0, q_p3_0, q_g3_1, q_p3_1, q_g3_2, q_p3_2, q_g3_3, q_p3_3, q_g3_4, q_p3_4, q_g3_5, q_p3_5, q_g3_6, q_p3_6, q_g4_0, q_p4_0, q_g4_1, q_p4_1, q_g4_2, q_p4_2, q_g4_3, q_p4_3, q_g4_4, q_p4_4, q_g5_0, q_p5_0, q_g5_1, q_p5_1, q_g5_2, q_p5_2, q_g5_3, q_p5_3, q_g5_4, q_p5_4, q_g5_5, q_p5_5, q_g5_6, q_p5_6, q_g5_7, q_p5_7, q_g5_8, q_p5_8, q_g5_9, q_p5_9, q_g5_10, q_p5_10, q_g5_11, q_p5_11, q_g5_12, q_p5_12, q_g5_13, q_p5_13, q_g5_14, q_p5_14, q_g5_15, q_p5_15, g_v1 (d := d + 1) hG (by omega), g_v3 (d := d + 1) hG (by omega), hp', e1]
theorem ac_rr {z V s a b : Nat} (hG : isG M v cnt u ln tx B H) (hB : B + 2000 < 1000000000) (hV : V < 2147483648) (hs : s < 2) (ha : a < 8) (hb : b < 8) : acR X d M h B 220 [some (.ref 0), some (.int (zN z)), some (.int (zN V)), some (.int (zN s)), some (.int (zN a)), some (.int (zN b))] [] := by
  obtain ⟨q0, q1, q2, q3, q4, q5, -⟩ := id hG.2.1.1
  have a0 := isJ_0 hG.1.1
  have hr := rpr_le (v 2 - v 1) (v 1) v
  obtain ⟨M1, e1, G1, s1⟩ := g_repair (X := X) (d := d + 1) (h := j_h0 h) hG (by omega)
  refine ⟨M1, _, _, _, _, _, H, 0, by omega, ?_, isG_w G1 (by omega), s1⟩
  rw [jT_0]
  simp (disch := first | exact cs_0 | exact cs_1 _ | exact cs_2 _ _ | exact cs_3 _ _ _ | exact cs_4 _ _ _ _ | exact j_one_i _ | exact j_one_r _ | exact j_one_n | assumption | omega) only [e126_220, e126_221, e126_224, e126_227, e126_228, e126_231, e126_232, q_k_v, q_k_n, q_k_x, q_kc_v, q_kc_n, q_kc_x, q_rc, q_eq_t, q_eq_f, q_eq_nm, q_eq_mn, q_eq_mt, q_eq_mf, q_lt_t, q_lt_f, q_lt_mn, q_lt_nm, q_le_t, q_le_f, q_le_mn, q_le_nm, q_ac_t, q_ac_f, q_dv_n, q_rm_n, q_ld_n, q_lB_n, q_lJ_n, q_st_n, q_sB_n, q_sJ_n, q_sQ_n, q_cp_n, zN_add, zN_mul, zN_sub, zN_subm, zM_sub, zN_and, va_up_self, va_up_ne, j_add0, j_addt, ne_eq, not_false_eq_true, not_true_eq_false, Nat.reduceAdd, Nat.reduceSub, Nat.reduceMul, Nat.reduceMod, Nat.reduceEqDiff, q_g0_0, q_p0_0, q_g0_1, q_p0_1, q_g0_2, q_p0_2, q_g0_3, q_p0_3, q_g0_4, q_p0_4, q_g0_5, q_p0_5, q_g0_6, q_p0_6, q_g0_7, q_p0_7, q_g1_0, q_p1_0, q_g1_1, q_p1_1, q_g1_2, q_p1_2, q_g1_3, q_p1_3, q_g1_4, q_p1_4, q_g1_5, q_p1_5, q_g1_6, q_p1_6, q_g2_0, q_p2_0, q_g2_1, q_p2_1, q_g2_2, q_p2_2, q_g2_3, q_p2_3, q_g3_0, q_p3_0, q_g3_1, q_p3_1, q_g3_2, q_p3_2, q_g3_3, q_p3_3, q_g3_4, q_p3_4, q_g3_5, q_p3_5, q_g3_6, q_p3_6, q_g4_0, q_p4_0, q_g4_1, q_p4_1, q_g4_2, q_p4_2, q_g4_3, q_p4_3, q_g4_4, q_p4_4, q_g5_0, q_p5_0, q_g5_1, q_p5_1, q_g5_2, q_p5_2, q_g5_3, q_p5_3, q_g5_4, q_p5_4, q_g5_5, q_p5_5, q_g5_6, q_p5_6, q_g5_7, q_p5_7, q_g5_8, q_p5_8, q_g5_9, q_p5_9, q_g5_10, q_p5_10, q_g5_11, q_p5_11, q_g5_12, q_p5_12, q_g5_13, q_p5_13, q_g5_14, q_p5_14, q_g5_15, q_p5_15, a0, e1]
theorem ac_lk {z V s a b : Nat} (hG : isG M v cnt u ln tx B H) (hB : B + 2000 < 1000000000) (hV : V < 2147483648) (hs : s < 2) (ha : a < 8) (hb : b < 8) : acR X d M h B 233 [some (.ref 0), some (.int (zN z)), some (.int (zN V)), some (.int (zN s)), some (.int (zN a)), some (.int (zN b))] [] := by
  obtain ⟨M1, v1, cnt1, u1, e1, G1, s1⟩ := g_links (X := X) (d := d) (h := j_h0 h) (s := s) hG (by omega) hs
  refine ⟨M1, _, _, _, _, _, H, 1, by omega, ?_, isG_w G1 (by omega), s1⟩
  simp (disch := first | exact cs_0 | exact cs_1 _ | exact cs_2 _ _ | exact cs_3 _ _ _ | exact cs_4 _ _ _ _ | exact j_one_i _ | exact j_one_r _ | exact j_one_n | assumption | omega) only [e126_233, e126_234, e126_235, e126_238, q_k_v, q_k_n, q_k_x, q_kc_v, q_kc_n, q_kc_x, q_rc, q_eq_t, q_eq_f, q_eq_nm, q_eq_mn, q_eq_mt, q_eq_mf, q_lt_t, q_lt_f, q_lt_mn, q_lt_nm, q_le_t, q_le_f, q_le_mn, q_le_nm, q_ac_t, q_ac_f, q_dv_n, q_rm_n, q_ld_n, q_lB_n, q_lJ_n, q_st_n, q_sB_n, q_sJ_n, q_sQ_n, q_cp_n, zN_add, zN_mul, zN_sub, zN_subm, zM_sub, zN_and, va_up_self, va_up_ne, j_add0, j_addt, ne_eq, not_false_eq_true, not_true_eq_false, Nat.reduceAdd, Nat.reduceSub, Nat.reduceMul, Nat.reduceMod, Nat.reduceEqDiff, q_g0_0, q_p0_0, q_g0_1, q_p0_1, q_g0_2, q_p0_2, q_g0_3, q_p0_3, q_g0_4, q_p0_4, q_g0_5, q_p0_5, q_g0_6, q_p0_6, q_g0_7, q_p0_7, q_g1_0, q_p1_0, q_g1_1, q_p1_1, q_g1_2, q_p1_2, q_g1_3, q_p1_3, q_g1_4, q_p1_4, q_g1_5, q_p1_5, q_g1_6, q_p1_6, q_g2_0, q_p2_0, q_g2_1, q_p2_1, q_g2_2, q_p2_2, q_g2_3, q_p2_3, q_g3_0, q_p3_0, q_g3_1, q_p3_1, q_g3_2, q_p3_2, q_g3_3, q_p3_3, q_g3_4, q_p3_4, q_g3_5, q_p3_5, q_g3_6, q_p3_6, q_g4_0, q_p4_0, q_g4_1, q_p4_1, q_g4_2, q_p4_2, q_g4_3, q_p4_3, q_g4_4, q_p4_4, q_g5_0, q_p5_0, q_g5_1, q_p5_1, q_g5_2, q_p5_2, q_g5_3, q_p5_3, q_g5_4, q_p5_4, q_g5_5, q_p5_5, q_g5_6, q_p5_6, q_g5_7, q_p5_7, q_g5_8, q_p5_8, q_g5_9, q_p5_9, q_g5_10, q_p5_10, q_g5_11, q_p5_11, q_g5_12, q_p5_12, q_g5_13, q_p5_13, q_g5_14, q_p5_14, q_g5_15, q_p5_15, e1, jT_a]
theorem ac_cr {z V s a b : Nat} (hG : isG M v cnt u ln tx B H) (hB : B + 2000 < 1000000000) (hV : V < 2147483648) (hs : s < 2) (ha : a < 8) (hb : b < 8) : acR X d M h B 239 [some (.ref 0), some (.int (zN z)), some (.int (zN V)), some (.int (zN s)), some (.int (zN a)), some (.int (zN b))] [] := by
  have hS := okV_s hG.2.1.1 hs
  have hv2 : v 2 ≤ B := hG.2.1.1.2.2.2.2.1
  have hvt : v (164 + 21 * s) ≤ v 2 := hS.2.2.1
  obtain ⟨M1, e1, G1, s1⟩ := g_crash (X := X) (d := d + 1) (h := j_h0 h) (s := s) hG (by omega) hs
  refine ⟨M1, _, _, _, _, _, H, 0, by omega, ?_, isG_w G1 (by omega), s1⟩
  rw [jT_0]
  simp (disch := first | exact cs_0 | exact cs_1 _ | exact cs_2 _ _ | exact cs_3 _ _ _ | exact cs_4 _ _ _ _ | exact j_one_i _ | exact j_one_r _ | exact j_one_n | assumption | omega) only [e126_239, e126_240, e126_241, e126_244, e126_247, e126_248, e126_251, e126_252, q_k_v, q_k_n, q_k_x, q_kc_v, q_kc_n, q_kc_x, q_rc, q_eq_t, q_eq_f, q_eq_nm, q_eq_mn, q_eq_mt, q_eq_mf, q_lt_t, q_lt_f, q_lt_mn, q_lt_nm, q_le_t, q_le_f, q_le_mn, q_le_nm, q_ac_t, q_ac_f, q_dv_n, q_rm_n, q_ld_n, q_lB_n, q_lJ_n, q_st_n, q_sB_n, q_sJ_n, q_sQ_n, q_cp_n, zN_add, zN_mul, zN_sub, zN_subm, zM_sub, zN_and, va_up_self, va_up_ne, j_add0, j_addt, ne_eq, not_false_eq_true, not_true_eq_false, Nat.reduceAdd, Nat.reduceSub, Nat.reduceMul, Nat.reduceMod, Nat.reduceEqDiff, q_g0_0, q_p0_0, q_g0_1, q_p0_1, q_g0_2, q_p0_2, q_g0_3, q_p0_3, q_g0_4, q_p0_4, q_g0_5, q_p0_5, q_g0_6, q_p0_6, q_g0_7, q_p0_7, q_g1_0, q_p1_0, q_g1_1, q_p1_1, q_g1_2, q_p1_2, q_g1_3, q_p1_3, q_g1_4, q_p1_4, q_g1_5, q_p1_5, q_g1_6, q_p1_6, q_g2_0, q_p2_0, q_g2_1, q_p2_1, q_g2_2, q_p2_2, q_g2_3, q_p2_3, q_g3_0, q_p3_0, q_g3_1, q_p3_1, q_g3_2, q_p3_2, q_g3_3, q_p3_3, q_g3_4, q_p3_4, q_g3_5, q_p3_5, q_g3_6, q_p3_6, q_g4_0, q_p4_0, q_g4_1, q_p4_1, q_g4_2, q_p4_2, q_g4_3, q_p4_3, q_g4_4, q_p4_4, q_g5_0, q_p5_0, q_g5_1, q_p5_1, q_g5_2, q_p5_2, q_g5_3, q_p5_3, q_g5_4, q_p5_4, q_g5_5, q_p5_5, q_g5_6, q_p5_6, q_g5_7, q_p5_7, q_g5_8, q_p5_8, q_g5_9, q_p5_9, q_g5_10, q_p5_10, q_g5_11, q_p5_11, q_g5_12, q_p5_12, q_g5_13, q_p5_13, q_g5_14, q_p5_14, q_g5_15, q_p5_15, e1]
theorem ac_ca {z V s a b : Nat} (hG : isG M v cnt u ln tx B H) (hB : B + 2000 < 1000000000) (hV : V < 2147483648) (hs : s < 2) (ha : a < 8) (hb : b < 8) : acR X d M h B 253 [some (.ref 0), some (.int (zN z)), some (.int (zN V)), some (.int (zN s)), some (.int (zN a)), some (.int (zN b))] [] := by
  obtain ⟨M1, v1, cnt1, u1, T1, H1, e1, G1, s1⟩ := g_carries (X := X) (d := d) (h := j_h0 h) (a := a) (b := b) (n := 1 + V / 1024 % 99) (s := s) hG (by omega) ha hb (by omega) (by omega) hs
  refine ⟨M1, _, _, _, _, _, H1, 0, by omega, ?_, isG_w G1 (by omega), s1⟩
  rw [jT_0]
  simp (disch := first | exact cs_0 | exact cs_1 _ | exact cs_2 _ _ | exact cs_3 _ _ _ | exact cs_4 _ _ _ _ | exact j_one_i _ | exact j_one_r _ | exact j_one_n | assumption | omega) only [e126_253, e126_254, e126_256, e126_258, e126_259, e126_260, e126_263, e126_264, e126_266, e126_267, e126_268, e126_269, e126_272, q_k_v, q_k_n, q_k_x, q_kc_v, q_kc_n, q_kc_x, q_rc, q_eq_t, q_eq_f, q_eq_nm, q_eq_mn, q_eq_mt, q_eq_mf, q_lt_t, q_lt_f, q_lt_mn, q_lt_nm, q_le_t, q_le_f, q_le_mn, q_le_nm, q_ac_t, q_ac_f, q_dv_n, q_rm_n, q_ld_n, q_lB_n, q_lJ_n, q_st_n, q_sB_n, q_sJ_n, q_sQ_n, q_cp_n, zN_add, zN_mul, zN_sub, zN_subm, zM_sub, zN_and, va_up_self, va_up_ne, j_add0, j_addt, ne_eq, not_false_eq_true, not_true_eq_false, Nat.reduceAdd, Nat.reduceSub, Nat.reduceMul, Nat.reduceMod, Nat.reduceEqDiff, q_g0_0, q_p0_0, q_g0_1, q_p0_1, q_g0_2, q_p0_2, q_g0_3, q_p0_3, q_g0_4, q_p0_4, q_g0_5, q_p0_5, q_g0_6, q_p0_6, q_g0_7, q_p0_7, q_g1_0, q_p1_0, q_g1_1, q_p1_1, q_g1_2, q_p1_2, q_g1_3, q_p1_3, q_g1_4, q_p1_4, q_g1_5, q_p1_5, q_g1_6, q_p1_6, q_g2_0, q_p2_0, q_g2_1, q_p2_1, q_g2_2, q_p2_2, q_g2_3, q_p2_3, q_g3_0, q_p3_0, q_g3_1, q_p3_1, q_g3_2, q_p3_2, q_g3_3, q_p3_3, q_g3_4, q_p3_4, q_g3_5, q_p3_5, q_g3_6, q_p3_6, q_g4_0, q_p4_0, q_g4_1, q_p4_1, q_g4_2, q_p4_2, q_g4_3, q_p4_3, q_g4_4, q_p4_4, q_g5_0, q_p5_0, q_g5_1, q_p5_1, q_g5_2, q_p5_2, q_g5_3, q_p5_3, q_g5_4, q_p5_4, q_g5_5, q_p5_5, q_g5_6, q_p5_6, q_g5_7, q_p5_7, q_g5_8, q_p5_8, q_g5_9, q_p5_9, q_g5_10, q_p5_10, q_g5_11, q_p5_11, q_g5_12, q_p5_12, q_g5_13, q_p5_13, q_g5_14, q_p5_14, q_g5_15, q_p5_15, e1]
theorem ac_bg {z V s a b : Nat} (hG : isG M v cnt u ln tx B H) (hB : B + 2000 < 1000000000) (hV : V < 2147483648) (hs : s < 2) (ha : a < 8) (hb : b < 8) : acR X d M h B 273 [some (.ref 0), some (.int (zN z)), some (.int (zN V)), some (.int (zN s)), some (.int (zN a)), some (.int (zN b))] [] := by
  by_cases c : 0 < V % 16
  · refine ⟨M, v, cnt, u, ln, tx, H, 0, by omega, ?_, isG_w hG (by omega), sm_rfl⟩
    rw [jT_0]
    simp (disch := first | exact cs_0 | exact cs_1 _ | exact cs_2 _ _ | exact cs_3 _ _ _ | exact cs_4 _ _ _ _ | exact j_one_i _ | exact j_one_r _ | exact j_one_n | assumption | omega) only [e126_273, e126_274, e126_276, e126_277, e126_280, e126_281, e126_282, e126_283, e126_285, e126_286, e126_288, e126_289, e126_290, e126_293, e126_296, e126_297, e126_300, e126_301, q_k_v, q_k_n, q_k_x, q_kc_v, q_kc_n, q_kc_x, q_rc, q_eq_t, q_eq_f, q_eq_nm, q_eq_mn, q_eq_mt, q_eq_mf, q_lt_t, q_lt_f, q_lt_mn, q_lt_nm, q_le_t, q_le_f, q_le_mn, q_le_nm, q_ac_t, q_ac_f, q_dv_n, q_rm_n, q_ld_n, q_lB_n, q_lJ_n, q_st_n, q_sB_n, q_sJ_n, q_sQ_n, q_cp_n, zN_add, zN_mul, zN_sub, zN_subm, zM_sub, zN_and, va_up_self, va_up_ne, j_add0, j_addt, ne_eq, not_false_eq_true, not_true_eq_false, Nat.reduceAdd, Nat.reduceSub, Nat.reduceMul, Nat.reduceMod, Nat.reduceEqDiff, q_g0_0, q_p0_0, q_g0_1, q_p0_1, q_g0_2, q_p0_2, q_g0_3, q_p0_3, q_g0_4, q_p0_4, q_g0_5, q_p0_5, q_g0_6, q_p0_6, q_g0_7, q_p0_7, q_g1_0, q_p1_0, q_g1_1, q_p1_1, q_g1_2, q_p1_2, q_g1_3, q_p1_3, q_g1_4, q_p1_4, q_g1_5, q_p1_5, q_g1_6, q_p1_6, q_g2_0, q_p2_0, q_g2_1, q_p2_1, q_g2_2, q_p2_2, q_g2_3, q_p2_3, q_g3_0, q_p3_0, q_g3_1, q_p3_1, q_g3_2, q_p3_2, q_g3_3, q_p3_3, q_g3_4, q_p3_4, q_g3_5, q_p3_5, q_g3_6, q_p3_6, q_g4_0, q_p4_0, q_g4_1, q_p4_1, q_g4_2, q_p4_2, q_g4_3, q_p4_3, q_g4_4, q_p4_4, q_g5_0, q_p5_0, q_g5_1, q_p5_1, q_g5_2, q_p5_2, q_g5_3, q_p5_3, q_g5_4, q_p5_4, q_g5_5, q_p5_5, q_g5_6, q_p5_6, q_g5_7, q_p5_7, q_g5_8, q_p5_8, q_g5_9, q_p5_9, q_g5_10, q_p5_10, q_g5_11, q_p5_11, q_g5_12, q_p5_12, q_g5_13, q_p5_13, q_g5_14, q_p5_14, q_g5_15, q_p5_15, zN_and15]
  · obtain ⟨q0, q1, q2, q3, q4, q5, -⟩ := id hG.2.1.1
    obtain ⟨M1, H1, e1, G1, s1⟩ := g_begin (X := X) (d := d + 1) (h := j_h0 h) (k := 4 + V / 16 % 29) hG (by omega) (by omega) (by omega)
    refine ⟨M1, _, _, _, _, _, H1, 0, by omega, ?_, isG_w G1 (by omega), s1⟩
    rw [jT_0]
    simp (disch := first | exact cs_0 | exact cs_1 _ | exact cs_2 _ _ | exact cs_3 _ _ _ | exact cs_4 _ _ _ _ | exact j_one_i _ | exact j_one_r _ | exact j_one_n | assumption | omega) only [e126_273, e126_274, e126_276, e126_277, e126_280, e126_281, e126_282, e126_283, e126_285, e126_286, e126_288, e126_289, e126_290, e126_293, e126_296, e126_297, e126_300, e126_301, q_k_v, q_k_n, q_k_x, q_kc_v, q_kc_n, q_kc_x, q_rc, q_eq_t, q_eq_f, q_eq_nm, q_eq_mn, q_eq_mt, q_eq_mf, q_lt_t, q_lt_f, q_lt_mn, q_lt_nm, q_le_t, q_le_f, q_le_mn, q_le_nm, q_ac_t, q_ac_f, q_dv_n, q_rm_n, q_ld_n, q_lB_n, q_lJ_n, q_st_n, q_sB_n, q_sJ_n, q_sQ_n, q_cp_n, zN_add, zN_mul, zN_sub, zN_subm, zM_sub, zN_and, va_up_self, va_up_ne, j_add0, j_addt, ne_eq, not_false_eq_true, not_true_eq_false, Nat.reduceAdd, Nat.reduceSub, Nat.reduceMul, Nat.reduceMod, Nat.reduceEqDiff, q_g0_0, q_p0_0, q_g0_1, q_p0_1, q_g0_2, q_p0_2, q_g0_3, q_p0_3, q_g0_4, q_p0_4, q_g0_5, q_p0_5, q_g0_6, q_p0_6, q_g0_7, q_p0_7, q_g1_0, q_p1_0, q_g1_1, q_p1_1, q_g1_2, q_p1_2, q_g1_3, q_p1_3, q_g1_4, q_p1_4, q_g1_5, q_p1_5, q_g1_6, q_p1_6, q_g2_0, q_p2_0, q_g2_1, q_p2_1, q_g2_2, q_p2_2, q_g2_3, q_p2_3, q_g3_0, q_p3_0, q_g3_1, q_p3_1, q_g3_2, q_p3_2, q_g3_3, q_p3_3, q_g3_4, q_p3_4, q_g3_5, q_p3_5, q_g3_6, q_p3_6, q_g4_0, q_p4_0, q_g4_1, q_p4_1, q_g4_2, q_p4_2, q_g4_3, q_p4_3, q_g4_4, q_p4_4, q_g5_0, q_p5_0, q_g5_1, q_p5_1, q_g5_2, q_p5_2, q_g5_3, q_p5_3, q_g5_4, q_p5_4, q_g5_5, q_p5_5, q_g5_6, q_p5_6, q_g5_7, q_p5_7, q_g5_8, q_p5_8, q_g5_9, q_p5_9, q_g5_10, q_p5_10, q_g5_11, q_p5_11, q_g5_12, q_p5_12, q_g5_13, q_p5_13, q_g5_14, q_p5_14, q_g5_15, q_p5_15, zN_and15, e1]
theorem g_acts {z : Nat} (hG : isG M v cnt u ln tx B H) (hB : B + 2000 < 1000000000) (hz : z < 2147483648) : acR X d M h B 0 [some (.ref 0), some (.int (zN z)), none, none, none, none] [] := by
  unfold acR
  rw [ac_0 hz]
  have l1 : z / 16 < 2147483648 := by omega
  have l2 : z / 16 % 2 < 2 := by omega
  have l3 : z / 16 / 2 % 8 < 8 := by omega
  have l4 : z / 16 / 16 % 8 < 8 := by omega
  have hc : z % 16 = 0 ∨ z % 16 = 1 ∨ z % 16 = 2 ∨ z % 16 = 3 ∨ z % 16 = 4 ∨ z % 16 = 5 ∨ z % 16 = 6 ∨ z % 16 = 7 ∨ z % 16 = 8 ∨ z % 16 = 9 ∨ z % 16 = 10 ∨ z % 16 = 11 ∨ z % 16 = 12 ∨ z % 16 = 13 ∨ z % 16 = 14 ∨ z % 16 = 15 := by omega
  rcases hc with hc | hc | hc | hc | hc | hc | hc | hc | hc | hc | hc | hc | hc | hc | hc | hc
  · rw [hc, e126_29_0]
    exact ac_w hG hB l1 l2 l3 l4
  · rw [hc, e126_29_1]
    exact ac_w hG hB l1 l2 l3 l4
  · rw [hc, e126_29_2]
    exact ac_w hG hB l1 l2 l3 l4
  · rw [hc, e126_29_3]
    exact ac_w hG hB l1 l2 l3 l4
  · rw [hc, e126_29_4]
    exact ac_rs hG hB l1 l2 l3 l4
  · rw [hc, e126_29_5]
    exact ac_rs hG hB l1 l2 l3 l4
  · rw [hc, e126_29_6]
    exact ac_rp hG hB l1 l2 l3 l4
  · rw [hc, e126_29_7]
    exact ac_sn hG hB l1 l2 l3 l4
  · rw [hc, e126_29_8]
    exact ac_sn hG hB l1 l2 l3 l4
  · rw [hc, e126_29_9]
    exact ac_sp hG hB l1 l2 l3 l4
  · rw [hc, e126_29_10]
    exact ac_rr hG hB l1 l2 l3 l4
  · rw [hc, e126_29_11]
    exact ac_lk hG hB l1 l2 l3 l4
  · rw [hc, e126_29_12]
    exact ac_cr hG hB l1 l2 l3 l4
  · rw [hc, e126_29_13]
    exact ac_ca hG hB l1 l2 l3 l4
  · rw [hc, e126_29_14]
    exact ac_ca hG hB l1 l2 l3 l4
  · rw [hc, e126_29_h (by omega) (by omega)]
    exact ac_bg hG hB l1 l2 l3 l4
end
