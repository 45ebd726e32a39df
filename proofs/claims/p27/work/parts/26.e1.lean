/-! one rule an instruction, printed by wip/p27/gen25.py -/
section
variable {X : jX} {d : Nat} {l0 l1 l2 l3 l4 l5 l6 l7 l8 l9 l10 l11 : Option Value} {LS t : jL} {ST : List Value} {M : jM} {h : jH} {x y z w u : Int32} {a b c e : Nat} {p q : Int64} {f g : UInt64}
theorem e31_0 : Rn X d 31 0 (some (.ref a) :: t) ST M h = Rn X d 31 1 (some (.ref a) :: t) (.ref a :: ST) M h := r_aload_n mt_31 dX2_init_0 rfl
theorem e31_1 (hcs : Nat.ble (j_cs ST) 8 = true) : Rn X (d + 1) 31 1 LS (.ref a :: ST) M h = Rn X (d + 1) 31 4 LS ST M h := s_obj mt_31 dX2_init_1 cl_2_3 hcs
theorem e31_4 : Rn X d 31 4 (some (.ref a) :: t) ST M h = Rn X d 31 5 (some (.ref a) :: t) (.ref a :: ST) M h := r_aload_n mt_31 dX2_init_4 rfl
theorem e31_5 {n c z : Nat} (h0 : n < 1000) : Rn X d 31 5 LS ST M (n, true, c, z) = Rn X d 31 8 LS (.ref n :: ST) (va_up M n (.inr (0, j_df 0))) (n + 1, true, c + 1, z + j_nf 0) := r_newo mt_31 dX2_init_5 tl_2_9 ol_2_9 h0
theorem e31_8 : Rn X d 31 8 LS (.int x :: ST) M h = Rn X d 31 9 LS (.int x :: .int x :: ST) M h := r_dup mt_31 dX2_init_8 rfl
theorem e31_8r : Rn X d 31 8 LS (.ref a :: ST) M h = Rn X d 31 9 LS (.ref a :: .ref a :: ST) M h := r_dup mt_31 dX2_init_8 rfl
theorem e31_9 (hcs : Nat.ble (j_cs ST) 8 = true) : Rn X (d + 1) 31 9 LS (.ref a :: ST) M h = j_rc (M a) 0 (q_k X (Rn X d 0 0 [some (.ref a)] [] M (j_h0 h)) h (d + 1) 31 12 LS ST) := s_callI (Or.inr rfl) mt_31 dX2_init_9 cl_2_11 mt_0 rfl rfl (Nat.le_add_left _ _) rfl rfl rfl rfl hcs
theorem e31_12 : Rn X d 31 12 LS (.ref b :: .ref a :: ST) M h = q_p X (M a) a 2 0 (.ref b) d 31 15 LS ST M h := s_putF mt_31 dX2_init_12 f_2_12 rfl (by decide +kernel) rfl rfl
theorem e31_15 : Rn X d 31 15 (some (.ref a) :: t) ST M h = Rn X d 31 16 (some (.ref a) :: t) (.ref a :: ST) M h := r_aload_n mt_31 dX2_init_15 rfl
theorem e31_16 {n c z : Nat} (h0 : n < 1000) : Rn X d 31 16 LS ST M (n, true, c, z) = Rn X d 31 19 LS (.ref n :: ST) (va_up M n (.inr (1, j_df 1))) (n + 1, true, c + 1, z + j_nf 1) := r_newo mt_31 dX2_init_16 tl_2_18 ol_2_18 h0
theorem e31_19 : Rn X d 31 19 LS (.int x :: ST) M h = Rn X d 31 20 LS (.int x :: .int x :: ST) M h := r_dup mt_31 dX2_init_19 rfl
theorem e31_19r : Rn X d 31 19 LS (.ref a :: ST) M h = Rn X d 31 20 LS (.ref a :: .ref a :: ST) M h := r_dup mt_31 dX2_init_19 rfl
theorem e31_20 (hcs : Nat.ble (j_cs ST) 8 = true) : Rn X (d + 1) 31 20 LS (.ref a :: ST) M h = j_rc (M a) 1 (q_k X (Rn X d 24 0 [some (.ref a)] [] M (j_h0 h)) h (d + 1) 31 23 LS ST) := s_callI (Or.inr rfl) mt_31 dX2_init_20 cl_2_20 mt_24 rfl rfl (Nat.le_add_left _ _) rfl rfl rfl rfl hcs
theorem e31_23 : Rn X d 31 23 LS (.ref b :: .ref a :: ST) M h = q_p X (M a) a 2 1 (.ref b) d 31 26 LS ST M h := s_putF mt_31 dX2_init_23 f_2_21 rfl (by decide +kernel) rfl rfl
theorem e31_26 : Rn X d 31 26 (some (.ref a) :: t) ST M h = Rn X d 31 27 (some (.ref a) :: t) (.ref a :: ST) M h := r_aload_n mt_31 dX2_init_26 rfl
theorem e31_27 {n c z : Nat} (h0 : n < 1000) : Rn X d 31 27 LS ST M (n, true, c, z) = Rn X d 31 30 LS (.ref n :: ST) (va_up M n (.inr (1, j_df 1))) (n + 1, true, c + 1, z + j_nf 1) := r_newo mt_31 dX2_init_27 tl_2_18 ol_2_18 h0
theorem e31_30 : Rn X d 31 30 LS (.int x :: ST) M h = Rn X d 31 31 LS (.int x :: .int x :: ST) M h := r_dup mt_31 dX2_init_30 rfl
theorem e31_30r : Rn X d 31 30 LS (.ref a :: ST) M h = Rn X d 31 31 LS (.ref a :: .ref a :: ST) M h := r_dup mt_31 dX2_init_30 rfl
theorem e31_31 (hcs : Nat.ble (j_cs ST) 8 = true) : Rn X (d + 1) 31 31 LS (.ref a :: ST) M h = j_rc (M a) 1 (q_k X (Rn X d 24 0 [some (.ref a)] [] M (j_h0 h)) h (d + 1) 31 34 LS ST) := s_callI (Or.inr rfl) mt_31 dX2_init_31 cl_2_20 mt_24 rfl rfl (Nat.le_add_left _ _) rfl rfl rfl rfl hcs
theorem e31_34 : Rn X d 31 34 LS (.ref b :: .ref a :: ST) M h = q_p X (M a) a 2 2 (.ref b) d 31 37 LS ST M h := s_putF mt_31 dX2_init_34 f_2_25 rfl (by decide +kernel) rfl rfl
theorem e31_37 : Rn X d 31 37 (some (.ref a) :: t) ST M h = Rn X d 31 38 (some (.ref a) :: t) (.ref a :: ST) M h := r_aload_n mt_31 dX2_init_37 rfl
theorem e31_38 : Rn X d 31 38 LS ST M h = Rn X d 31 40 LS (.int (zN 8) :: ST) M h := r_bipush mt_31 dX2_init_38 c_bi8
theorem e31_40 (hcs : Nat.ble (j_cs ST) 8 = true) : Rn X (d + 1) 31 40 LS (.int x :: .ref a :: ST) M h = j_rc (M a) 2 (q_k X (Rn X d 32 0 [some (.ref a), some (.int x)] [] M (j_h0 h)) h (d + 1) 31 43 LS ST) := s_callV mt_31 dX2_init_40 cl_2_28 mt_32 rfl rfl (Nat.le_add_left _ _) rfl rfl rfl rfl hcs
theorem e31_43 : Rn X d 31 43 LS [] M h = some (.inl none, M, h) := r_vret mt_31 dX2_init_43 rfl
theorem e32_0 : Rn X d 32 0 (some (.ref a) :: t) ST M h = Rn X d 32 1 (some (.ref a) :: t) (.ref a :: ST) M h := r_aload_n mt_32 dX2_restart_0 rfl
theorem e32_1 : Rn X d 32 1 LS (.ref a :: ST) M h = q_g X (M a) 2 0 d 32 4 LS ST M h := s_get mt_32 dX2_restart_1 f_2_12
theorem e32_4 : Rn X d 32 4 (l0 :: some (.int x) :: t) ST M h = Rn X d 32 5 (l0 :: some (.int x) :: t) (.int x :: ST) M h := r_iload_n mt_32 dX2_restart_4 rfl
theorem e32_5 (hcs : Nat.ble (j_cs ST) 8 = true) : Rn X (d + 1) 32 5 LS (.int x :: .ref a :: ST) M h = j_rc (M a) 0 (q_k X (Rn X d 2 0 [some (.ref a), some (.int x)] [] M (j_h0 h)) h (d + 1) 32 8 LS ST) := s_callV mt_32 dX2_restart_5 cl_2_32 mt_2 rfl rfl (Nat.le_add_left _ _) rfl rfl rfl rfl hcs
theorem e32_8 : Rn X d 32 8 (some (.ref a) :: t) ST M h = Rn X d 32 9 (some (.ref a) :: t) (.ref a :: ST) M h := r_aload_n mt_32 dX2_restart_8 rfl
theorem e32_9 : Rn X d 32 9 LS (.ref a :: ST) M h = q_g X (M a) 2 1 d 32 12 LS ST M h := s_get mt_32 dX2_restart_9 f_2_21
theorem e32_12 (hcs : Nat.ble (j_cs ST) 8 = true) : Rn X (d + 1) 32 12 LS (.ref a :: ST) M h = j_rc (M a) 1 (q_k X (Rn X d 25 0 [some (.ref a), none] [] M (j_h0 h)) h (d + 1) 32 15 LS ST) := s_callV mt_32 dX2_restart_12 cl_2_33 mt_25 rfl rfl (Nat.le_add_left _ _) rfl rfl rfl rfl hcs
theorem e32_15 : Rn X d 32 15 (some (.ref a) :: t) ST M h = Rn X d 32 16 (some (.ref a) :: t) (.ref a :: ST) M h := r_aload_n mt_32 dX2_restart_15 rfl
theorem e32_16 : Rn X d 32 16 LS (.ref a :: ST) M h = q_g X (M a) 2 2 d 32 19 LS ST M h := s_get mt_32 dX2_restart_16 f_2_25
theorem e32_19 (hcs : Nat.ble (j_cs ST) 8 = true) : Rn X (d + 1) 32 19 LS (.ref a :: ST) M h = j_rc (M a) 1 (q_k X (Rn X d 25 0 [some (.ref a), none] [] M (j_h0 h)) h (d + 1) 32 22 LS ST) := s_callV mt_32 dX2_restart_19 cl_2_33 mt_25 rfl rfl (Nat.le_add_left _ _) rfl rfl rfl rfl hcs
theorem e32_22 : Rn X d 32 22 (some (.ref a) :: t) ST M h = Rn X d 32 23 (some (.ref a) :: t) (.ref a :: ST) M h := r_aload_n mt_32 dX2_restart_22 rfl
theorem e32_23 : Rn X d 32 23 LS ST M h = Rn X d 32 24 LS (.int (zN 0) :: ST) M h := r_iconst mt_32 dX2_restart_23 c_ic0
theorem e32_24 : Rn X d 32 24 LS (.int x :: .ref a :: ST) M h = q_p X (M a) a 2 3 (.int x) d 32 27 LS ST M h := s_putN mt_32 dX2_restart_24 f_2_35 rfl rfl rfl
theorem e32_27 : Rn X d 32 27 LS [] M h = some (.inl none, M, h) := r_vret mt_32 dX2_restart_27 rfl
theorem e33_0 : Rn X d 33 0 (some (.ref a) :: t) ST M h = Rn X d 33 1 (some (.ref a) :: t) (.ref a :: ST) M h := r_aload_n mt_33 dX2_copyFrom_0 rfl
theorem e33_1 : Rn X d 33 1 LS (.ref a :: ST) M h = q_g X (M a) 2 0 d 33 4 LS ST M h := s_get mt_33 dX2_copyFrom_1 f_2_12
theorem e33_4 : Rn X d 33 4 (l0 :: some (.ref a) :: t) ST M h = Rn X d 33 5 (l0 :: some (.ref a) :: t) (.ref a :: ST) M h := r_aload_n mt_33 dX2_copyFrom_4 rfl
theorem e33_5 : Rn X d 33 5 LS (.ref a :: ST) M h = q_g X (M a) 2 0 d 33 8 LS ST M h := s_get mt_33 dX2_copyFrom_5 f_2_12
theorem e33_8 (hcs : Nat.ble (j_cs ST) 8 = true) : Rn X (d + 1) 33 8 LS (.ref b :: .ref a :: ST) M h = j_rc (M a) 0 (q_k X (Rn X d 3 0 [some (.ref a), some (.ref b)] [] M (j_h0 h)) h (d + 1) 33 11 LS ST) := s_callV mt_33 dX2_copyFrom_8 cl_2_39 mt_3 rfl rfl (Nat.le_add_left _ _) rfl rfl rfl rfl hcs
theorem e33_11 : Rn X d 33 11 (some (.ref a) :: t) ST M h = Rn X d 33 12 (some (.ref a) :: t) (.ref a :: ST) M h := r_aload_n mt_33 dX2_copyFrom_11 rfl
theorem e33_12 : Rn X d 33 12 LS (.ref a :: ST) M h = q_g X (M a) 2 1 d 33 15 LS ST M h := s_get mt_33 dX2_copyFrom_12 f_2_21
theorem e33_15 : Rn X d 33 15 (l0 :: some (.ref a) :: t) ST M h = Rn X d 33 16 (l0 :: some (.ref a) :: t) (.ref a :: ST) M h := r_aload_n mt_33 dX2_copyFrom_15 rfl
theorem e33_16 : Rn X d 33 16 LS (.ref a :: ST) M h = q_g X (M a) 2 1 d 33 19 LS ST M h := s_get mt_33 dX2_copyFrom_16 f_2_21
theorem e33_19 (hcs : Nat.ble (j_cs ST) 8 = true) : Rn X (d + 1) 33 19 LS (.ref b :: .ref a :: ST) M h = j_rc (M a) 1 (q_k X (Rn X d 26 0 [some (.ref a), some (.ref b)] [] M (j_h0 h)) h (d + 1) 33 22 LS ST) := s_callV mt_33 dX2_copyFrom_19 cl_2_43 mt_26 rfl rfl (Nat.le_add_left _ _) rfl rfl rfl rfl hcs
theorem e33_22 : Rn X d 33 22 (some (.ref a) :: t) ST M h = Rn X d 33 23 (some (.ref a) :: t) (.ref a :: ST) M h := r_aload_n mt_33 dX2_copyFrom_22 rfl
theorem e33_23 : Rn X d 33 23 LS (.ref a :: ST) M h = q_g X (M a) 2 2 d 33 26 LS ST M h := s_get mt_33 dX2_copyFrom_23 f_2_25
theorem e33_26 : Rn X d 33 26 (l0 :: some (.ref a) :: t) ST M h = Rn X d 33 27 (l0 :: some (.ref a) :: t) (.ref a :: ST) M h := r_aload_n mt_33 dX2_copyFrom_26 rfl
theorem e33_27 : Rn X d 33 27 LS (.ref a :: ST) M h = q_g X (M a) 2 2 d 33 30 LS ST M h := s_get mt_33 dX2_copyFrom_27 f_2_25
theorem e33_30 (hcs : Nat.ble (j_cs ST) 8 = true) : Rn X (d + 1) 33 30 LS (.ref b :: .ref a :: ST) M h = j_rc (M a) 1 (q_k X (Rn X d 26 0 [some (.ref a), some (.ref b)] [] M (j_h0 h)) h (d + 1) 33 33 LS ST) := s_callV mt_33 dX2_copyFrom_30 cl_2_43 mt_26 rfl rfl (Nat.le_add_left _ _) rfl rfl rfl rfl hcs
theorem e33_33 : Rn X d 33 33 (some (.ref a) :: t) ST M h = Rn X d 33 34 (some (.ref a) :: t) (.ref a :: ST) M h := r_aload_n mt_33 dX2_copyFrom_33 rfl
theorem e33_34 : Rn X d 33 34 (l0 :: some (.ref a) :: t) ST M h = Rn X d 33 35 (l0 :: some (.ref a) :: t) (.ref a :: ST) M h := r_aload_n mt_33 dX2_copyFrom_34 rfl
theorem e33_35 : Rn X d 33 35 LS (.ref a :: ST) M h = q_g X (M a) 2 3 d 33 38 LS ST M h := s_get mt_33 dX2_copyFrom_35 f_2_35
theorem e33_38 : Rn X d 33 38 LS (.int x :: .ref a :: ST) M h = q_p X (M a) a 2 3 (.int x) d 33 41 LS ST M h := s_putN mt_33 dX2_copyFrom_38 f_2_35 rfl rfl rfl
theorem e33_41 : Rn X d 33 41 LS [] M h = some (.inl none, M, h) := r_vret mt_33 dX2_copyFrom_41 rfl
theorem e34_0 : Rn X d 34 0 (l0 :: some (.int x) :: t) ST M h = Rn X d 34 1 (l0 :: some (.int x) :: t) (.int x :: ST) M h := r_iload_n mt_34 dX2_shipOf_0 rfl
theorem e34_1 : Rn X d 34 1 LS (.int x :: ST) M h = q_eq X x (zN 0) d 34 4 11 LS ST M h := s_ifne mt_34 dX2_shipOf_1 rfl
theorem e34_4 : Rn X d 34 4 (some (.ref a) :: t) ST M h = Rn X d 34 5 (some (.ref a) :: t) (.ref a :: ST) M h := r_aload_n mt_34 dX2_shipOf_4 rfl
theorem e34_5 : Rn X d 34 5 LS (.ref a :: ST) M h = q_g X (M a) 2 1 d 34 8 LS ST M h := s_get mt_34 dX2_shipOf_5 f_2_21
theorem e34_8 : Rn X d 34 8 LS ST M h = Rn X d 34 15 LS ST M h := r_goto mt_34 dX2_shipOf_8 rfl
theorem e34_11 : Rn X d 34 11 (some (.ref a) :: t) ST M h = Rn X d 34 12 (some (.ref a) :: t) (.ref a :: ST) M h := r_aload_n mt_34 dX2_shipOf_11 rfl
theorem e34_12 : Rn X d 34 12 LS (.ref a :: ST) M h = q_g X (M a) 2 2 d 34 15 LS ST M h := s_get mt_34 dX2_shipOf_12 f_2_25
theorem e34_15 : Rn X d 34 15 LS ([.ref a]) M h = some (.inl (some (.ref a)), M, h) := r_aret mt_34 dX2_shipOf_15 rfl
theorem e35_0 : Rn X d 35 0 (l0 :: some (.ref a) :: t) ST M h = Rn X d 35 1 (l0 :: some (.ref a) :: t) (.ref a :: ST) M h := r_aload_n mt_35 dX2_otherThan_0 rfl
theorem e35_1 : Rn X d 35 1 (some (.ref a) :: t) ST M h = Rn X d 35 2 (some (.ref a) :: t) (.ref a :: ST) M h := r_aload_n mt_35 dX2_otherThan_1 rfl
theorem e35_2 : Rn X d 35 2 LS (.ref a :: ST) M h = q_g X (M a) 2 1 d 35 5 LS ST M h := s_get mt_35 dX2_otherThan_2 f_2_21
theorem e35_5 : Rn X d 35 5 LS (.ref b :: .ref a :: ST) M h = q_ac X a b d 35 8 15 LS ST M h := s_acne mt_35 dX2_otherThan_5 rfl
theorem e35_8 : Rn X d 35 8 (some (.ref a) :: t) ST M h = Rn X d 35 9 (some (.ref a) :: t) (.ref a :: ST) M h := r_aload_n mt_35 dX2_otherThan_8 rfl
theorem e35_9 : Rn X d 35 9 LS (.ref a :: ST) M h = q_g X (M a) 2 2 d 35 12 LS ST M h := s_get mt_35 dX2_otherThan_9 f_2_25
theorem e35_12 : Rn X d 35 12 LS ST M h = Rn X d 35 19 LS ST M h := r_goto mt_35 dX2_otherThan_12 rfl
theorem e35_15 : Rn X d 35 15 (some (.ref a) :: t) ST M h = Rn X d 35 16 (some (.ref a) :: t) (.ref a :: ST) M h := r_aload_n mt_35 dX2_otherThan_15 rfl
theorem e35_16 : Rn X d 35 16 LS (.ref a :: ST) M h = q_g X (M a) 2 1 d 35 19 LS ST M h := s_get mt_35 dX2_otherThan_16 f_2_21
theorem e35_19 : Rn X d 35 19 LS ([.ref a]) M h = some (.inl (some (.ref a)), M, h) := r_aret mt_35 dX2_otherThan_19 rfl
theorem e36_0 : Rn X d 36 0 (some (.ref a) :: t) ST M h = Rn X d 36 1 (some (.ref a) :: t) (.ref a :: ST) M h := r_aload_n mt_36 dX2_shipBehind_0 rfl
theorem e36_1 : Rn X d 36 1 LS (.ref a :: ST) M h = q_g X (M a) 2 1 d 36 4 LS ST M h := s_get mt_36 dX2_shipBehind_1 f_2_21
theorem e36_4 : Rn X d 36 4 LS (.ref a :: ST) M h = q_g X (M a) 1 0 d 36 7 LS ST M h := s_get mt_36 dX2_shipBehind_4 f_2_46
theorem e36_7 : Rn X d 36 7 (some (.ref a) :: t) ST M h = Rn X d 36 8 (some (.ref a) :: t) (.ref a :: ST) M h := r_aload_n mt_36 dX2_shipBehind_7 rfl
theorem e36_8 : Rn X d 36 8 LS (.ref a :: ST) M h = q_g X (M a) 2 2 d 36 11 LS ST M h := s_get mt_36 dX2_shipBehind_8 f_2_25
theorem e36_11 : Rn X d 36 11 LS (.ref a :: ST) M h = q_g X (M a) 1 0 d 36 14 LS ST M h := s_get mt_36 dX2_shipBehind_11 f_2_46
theorem e36_14 : Rn X d 36 14 LS (.int y :: .int x :: ST) M h = q_lt X y x d 36 24 17 LS ST M h := s_icgt mt_36 dX2_shipBehind_14 rfl
theorem e36_17 : Rn X d 36 17 (some (.ref a) :: t) ST M h = Rn X d 36 18 (some (.ref a) :: t) (.ref a :: ST) M h := r_aload_n mt_36 dX2_shipBehind_17 rfl
theorem e36_18 : Rn X d 36 18 LS (.ref a :: ST) M h = q_g X (M a) 2 1 d 36 21 LS ST M h := s_get mt_36 dX2_shipBehind_18 f_2_21
theorem e36_21 : Rn X d 36 21 LS ST M h = Rn X d 36 28 LS ST M h := r_goto mt_36 dX2_shipBehind_21 rfl
theorem e36_24 : Rn X d 36 24 (some (.ref a) :: t) ST M h = Rn X d 36 25 (some (.ref a) :: t) (.ref a :: ST) M h := r_aload_n mt_36 dX2_shipBehind_24 rfl
theorem e36_25 : Rn X d 36 25 LS (.ref a :: ST) M h = q_g X (M a) 2 2 d 36 28 LS ST M h := s_get mt_36 dX2_shipBehind_25 f_2_25
theorem e36_28 : Rn X d 36 28 LS ([.ref a]) M h = some (.inl (some (.ref a)), M, h) := r_aret mt_36 dX2_shipBehind_28 rfl
theorem e37_0 : Rn X d 37 0 (some (.ref a) :: t) ST M h = Rn X d 37 1 (some (.ref a) :: t) (.ref a :: ST) M h := r_aload_n mt_37 dX2_slowerSnapshot_0 rfl
theorem e37_1 : Rn X d 37 1 LS (.ref a :: ST) M h = q_g X (M a) 2 1 d 37 4 LS ST M h := s_get mt_37 dX2_slowerSnapshot_1 f_2_21
theorem e37_4 : Rn X d 37 4 LS (.ref a :: ST) M h = q_g X (M a) 1 1 d 37 7 LS ST M h := s_get mt_37 dX2_slowerSnapshot_4 f_2_49
theorem e37_7 : Rn X d 37 7 (some (.ref a) :: t) ST M h = Rn X d 37 8 (some (.ref a) :: t) (.ref a :: ST) M h := r_aload_n mt_37 dX2_slowerSnapshot_7 rfl
theorem e37_8 : Rn X d 37 8 LS (.ref a :: ST) M h = q_g X (M a) 2 2 d 37 11 LS ST M h := s_get mt_37 dX2_slowerSnapshot_8 f_2_25
theorem e37_11 : Rn X d 37 11 LS (.ref a :: ST) M h = q_g X (M a) 1 1 d 37 14 LS ST M h := s_get mt_37 dX2_slowerSnapshot_11 f_2_49
theorem e37_14 : Rn X d 37 14 LS (.int y :: .int x :: ST) M h = q_lt X y x d 37 24 17 LS ST M h := s_icgt mt_37 dX2_slowerSnapshot_14 rfl
theorem e37_17 : Rn X d 37 17 (some (.ref a) :: t) ST M h = Rn X d 37 18 (some (.ref a) :: t) (.ref a :: ST) M h := r_aload_n mt_37 dX2_slowerSnapshot_17 rfl
theorem e37_18 : Rn X d 37 18 LS (.ref a :: ST) M h = q_g X (M a) 2 1 d 37 21 LS ST M h := s_get mt_37 dX2_slowerSnapshot_18 f_2_21
theorem e37_21 : Rn X d 37 21 LS ST M h = Rn X d 37 28 LS ST M h := r_goto mt_37 dX2_slowerSnapshot_21 rfl
theorem e37_24 : Rn X d 37 24 (some (.ref a) :: t) ST M h = Rn X d 37 25 (some (.ref a) :: t) (.ref a :: ST) M h := r_aload_n mt_37 dX2_slowerSnapshot_24 rfl
theorem e37_25 : Rn X d 37 25 LS (.ref a :: ST) M h = q_g X (M a) 2 2 d 37 28 LS ST M h := s_get mt_37 dX2_slowerSnapshot_25 f_2_25
theorem e37_28 : Rn X d 37 28 LS ([.ref a]) M h = some (.inl (some (.ref a)), M, h) := r_aret mt_37 dX2_slowerSnapshot_28 rfl
theorem e38_0 : Rn X d 38 0 (some (.ref a) :: t) ST M h = Rn X d 38 1 (some (.ref a) :: t) (.ref a :: ST) M h := r_aload_n mt_38 dX2_linksUp_0 rfl
theorem e38_1 : Rn X d 38 1 LS (.ref a :: ST) M h = q_g X (M a) 2 1 d 38 4 LS ST M h := s_get mt_38 dX2_linksUp_1 f_2_21
theorem e38_4 : Rn X d 38 4 LS (.ref a :: ST) M h = q_g X (M a) 1 2 d 38 7 LS ST M h := s_get mt_38 dX2_linksUp_4 f_2_52
theorem e38_7 : Rn X d 38 7 LS (.int x :: ST) M h = q_eq X x (zN 0) d 38 14 10 LS ST M h := s_ifeq mt_38 dX2_linksUp_7 rfl
theorem e38_10 : Rn X d 38 10 LS ST M h = Rn X d 38 11 LS (.int (zN 1) :: ST) M h := r_iconst mt_38 dX2_linksUp_10 c_ic1
theorem e38_11 : Rn X d 38 11 LS ST M h = Rn X d 38 15 LS ST M h := r_goto mt_38 dX2_linksUp_11 rfl
theorem e38_14 : Rn X d 38 14 LS ST M h = Rn X d 38 15 LS (.int (zN 0) :: ST) M h := r_iconst mt_38 dX2_linksUp_14 c_ic0
theorem e38_15 : Rn X d 38 15 (some (.ref a) :: t) ST M h = Rn X d 38 16 (some (.ref a) :: t) (.ref a :: ST) M h := r_aload_n mt_38 dX2_linksUp_15 rfl
theorem e38_16 : Rn X d 38 16 LS (.ref a :: ST) M h = q_g X (M a) 2 2 d 38 19 LS ST M h := s_get mt_38 dX2_linksUp_16 f_2_25
theorem e38_19 : Rn X d 38 19 LS (.ref a :: ST) M h = q_g X (M a) 1 2 d 38 22 LS ST M h := s_get mt_38 dX2_linksUp_19 f_2_52
theorem e38_22 : Rn X d 38 22 LS (.int x :: ST) M h = q_eq X x (zN 0) d 38 29 25 LS ST M h := s_ifeq mt_38 dX2_linksUp_22 rfl
theorem e38_25 : Rn X d 38 25 LS ST M h = Rn X d 38 26 LS (.int (zN 1) :: ST) M h := r_iconst mt_38 dX2_linksUp_25 c_ic1
theorem e38_26 : Rn X d 38 26 LS ST M h = Rn X d 38 30 LS ST M h := r_goto mt_38 dX2_linksUp_26 rfl
theorem e38_29 : Rn X d 38 29 LS ST M h = Rn X d 38 30 LS (.int (zN 0) :: ST) M h := r_iconst mt_38 dX2_linksUp_29 c_ic0
theorem e38_30 : Rn X d 38 30 LS (.int y :: .int x :: ST) M h = Rn X d 38 31 LS (.int (x + y) :: ST) M h := r_iadd mt_38 dX2_linksUp_30
theorem e38_31 : Rn X d 38 31 LS ([.int x]) M h = some (.inl (some (.int x)), M, h) := r_iret mt_38 dX2_linksUp_31 rfl
theorem e39_0 : Rn X d 39 0 (some (.ref a) :: t) ST M h = Rn X d 39 1 (some (.ref a) :: t) (.ref a :: ST) M h := r_aload_n mt_39 dX2_replayedBy_0 rfl
theorem e39_1 : Rn X d 39 1 LS (.ref a :: ST) M h = q_g X (M a) 2 1 d 39 4 LS ST M h := s_get mt_39 dX2_replayedBy_1 f_2_21
theorem e39_4 : Rn X d 39 4 LS (.ref a :: ST) M h = q_g X (M a) 1 0 d 39 7 LS ST M h := s_get mt_39 dX2_replayedBy_4 f_2_46
theorem e39_7 : Rn X d 39 7 (l0 :: some (.int x) :: t) ST M h = Rn X d 39 8 (l0 :: some (.int x) :: t) (.int x :: ST) M h := r_iload_n mt_39 dX2_replayedBy_7 rfl
theorem e39_8 : Rn X d 39 8 LS (.int y :: .int x :: ST) M h = q_le X x y d 39 15 11 LS ST M h := s_icle mt_39 dX2_replayedBy_8 rfl
theorem e39_11 : Rn X d 39 11 LS ST M h = Rn X d 39 12 LS (.int (zN 1) :: ST) M h := r_iconst mt_39 dX2_replayedBy_11 c_ic1
theorem e39_12 : Rn X d 39 12 LS ST M h = Rn X d 39 16 LS ST M h := r_goto mt_39 dX2_replayedBy_12 rfl
theorem e39_15 : Rn X d 39 15 LS ST M h = Rn X d 39 16 LS (.int (zN 0) :: ST) M h := r_iconst mt_39 dX2_replayedBy_15 c_ic0
theorem e39_16 : Rn X d 39 16 (some (.ref a) :: t) ST M h = Rn X d 39 17 (some (.ref a) :: t) (.ref a :: ST) M h := r_aload_n mt_39 dX2_replayedBy_16 rfl
theorem e39_17 : Rn X d 39 17 LS (.ref a :: ST) M h = q_g X (M a) 2 2 d 39 20 LS ST M h := s_get mt_39 dX2_replayedBy_17 f_2_25
theorem e39_20 : Rn X d 39 20 LS (.ref a :: ST) M h = q_g X (M a) 1 0 d 39 23 LS ST M h := s_get mt_39 dX2_replayedBy_20 f_2_46
theorem e39_23 : Rn X d 39 23 (l0 :: some (.int x) :: t) ST M h = Rn X d 39 24 (l0 :: some (.int x) :: t) (.int x :: ST) M h := r_iload_n mt_39 dX2_replayedBy_23 rfl
theorem e39_24 : Rn X d 39 24 LS (.int y :: .int x :: ST) M h = q_le X x y d 39 31 27 LS ST M h := s_icle mt_39 dX2_replayedBy_24 rfl
theorem e39_27 : Rn X d 39 27 LS ST M h = Rn X d 39 28 LS (.int (zN 2) :: ST) M h := r_iconst mt_39 dX2_replayedBy_27 c_ic2
theorem e39_28 : Rn X d 39 28 LS ST M h = Rn X d 39 32 LS ST M h := r_goto mt_39 dX2_replayedBy_28 rfl
theorem e39_31 : Rn X d 39 31 LS ST M h = Rn X d 39 32 LS (.int (zN 0) :: ST) M h := r_iconst mt_39 dX2_replayedBy_31 c_ic0
theorem e39_32 : Rn X d 39 32 LS (.int y :: .int x :: ST) M h = Rn X d 39 33 LS (.int (x + y) :: ST) M h := r_iadd mt_39 dX2_replayedBy_32
theorem e39_33 : Rn X d 39 33 LS ([.int x]) M h = some (.inl (some (.int x)), M, h) := r_iret mt_39 dX2_replayedBy_33 rfl
theorem e40_0 : Rn X d 40 0 LS ST M h = Rn X d 40 1 LS (.int (zN 0) :: ST) M h := r_iconst mt_40 dX2_replayOrders_0 c_ic0
theorem e40_1 (ho : j_one l2 = true) : Rn X d 40 1 (l0 :: l1 :: l2 :: l3 :: t) (.int x :: ST) M h = Rn X d 40 2 (l0 :: l1 :: l2 :: some (.int x) :: t) ST M h := r_istore_n mt_40 dX2_replayOrders_1 (by show 3 < _; simp only [List.length_cons]; omega) ho rfl
theorem e40_2 : Rn X d 40 2 (l0 :: l1 :: l2 :: some (.int x) :: t) ST M h = Rn X d 40 3 (l0 :: l1 :: l2 :: some (.int x) :: t) (.int x :: ST) M h := r_iload_n mt_40 dX2_replayOrders_2 rfl
theorem e40_3 : Rn X d 40 3 (l0 :: l1 :: some (.int x) :: t) ST M h = Rn X d 40 4 (l0 :: l1 :: some (.int x) :: t) (.int x :: ST) M h := r_iload_n mt_40 dX2_replayOrders_3 rfl
theorem e40_4 : Rn X d 40 4 LS (.int y :: .int x :: ST) M h = q_le X y x d 40 58 7 LS ST M h := s_icge mt_40 dX2_replayOrders_4 rfl
theorem e40_7 : Rn X d 40 7 (some (.ref a) :: t) ST M h = Rn X d 40 8 (some (.ref a) :: t) (.ref a :: ST) M h := r_aload_n mt_40 dX2_replayOrders_7 rfl
theorem e40_8 : Rn X d 40 8 (l0 :: some (.ref a) :: t) ST M h = Rn X d 40 9 (l0 :: some (.ref a) :: t) (.ref a :: ST) M h := r_aload_n mt_40 dX2_replayOrders_8 rfl
theorem e40_9 (hcs : Nat.ble (j_cs ST) 8 = true) : Rn X (d + 1) 40 9 LS (.ref b :: .ref a :: ST) M h = j_rc (M a) 2 (q_k X (Rn X d 41 0 [some (.ref a), some (.ref b)] [] M (j_h0 h)) h (d + 1) 40 12 LS ST) := s_callV mt_40 dX2_replayOrders_9 cl_2_56 mt_41 rfl rfl (Nat.le_add_left _ _) rfl rfl rfl rfl hcs
theorem e40_12 : Rn X d 40 12 LS (.int x :: ST) M h = q_eq X x (zN 0) d 40 15 17 LS ST M h := s_ifne mt_40 dX2_replayOrders_12 rfl
theorem e40_15 : Rn X d 40 15 (l0 :: l1 :: l2 :: some (.int x) :: t) ST M h = Rn X d 40 16 (l0 :: l1 :: l2 :: some (.int x) :: t) (.int x :: ST) M h := r_iload_n mt_40 dX2_replayOrders_15 rfl
theorem e40_16 : Rn X d 40 16 LS ([.int x]) M h = some (.inl (some (.int x)), M, h) := r_iret mt_40 dX2_replayOrders_16 rfl
theorem e40_17 : Rn X d 40 17 (some (.ref a) :: t) ST M h = Rn X d 40 18 (some (.ref a) :: t) (.ref a :: ST) M h := r_aload_n mt_40 dX2_replayOrders_17 rfl
theorem e40_18 : Rn X d 40 18 LS (.ref a :: ST) M h = q_g X (M a) 2 0 d 40 21 LS ST M h := s_get mt_40 dX2_replayOrders_18 f_2_12
theorem e40_21 : Rn X d 40 21 (l0 :: some (.ref a) :: t) ST M h = Rn X d 40 22 (l0 :: some (.ref a) :: t) (.ref a :: ST) M h := r_aload_n mt_40 dX2_replayOrders_21 rfl
theorem e40_22 : Rn X d 40 22 LS (.ref a :: ST) M h = q_g X (M a) 1 5 d 40 25 LS ST M h := s_get mt_40 dX2_replayOrders_22 f_2_60
theorem e40_25 : Rn X d 40 25 (l0 :: some (.ref a) :: t) ST M h = Rn X d 40 26 (l0 :: some (.ref a) :: t) (.ref a :: ST) M h := r_aload_n mt_40 dX2_replayOrders_25 rfl
theorem e40_26 : Rn X d 40 26 LS (.ref a :: ST) M h = q_g X (M a) 1 0 d 40 29 LS ST M h := s_get mt_40 dX2_replayOrders_26 f_2_46
theorem e40_29 (hcs : Nat.ble (j_cs ST) 8 = true) : Rn X (d + 1) 40 29 LS (.int x :: .ref b :: .ref a :: ST) M h = j_rc (M a) 0 (q_k X (Rn X d 20 0 [some (.ref a), some (.ref b), some (.int x), none, none, none, none] [] M (j_h0 h)) h (d + 1) 40 32 LS ST) := s_callV mt_40 dX2_replayOrders_29 cl_2_64 mt_20 rfl rfl (Nat.le_add_left _ _) rfl rfl rfl rfl hcs
theorem e40_32 : Rn X d 40 32 (l0 :: some (.ref a) :: t) ST M h = Rn X d 40 33 (l0 :: some (.ref a) :: t) (.ref a :: ST) M h := r_aload_n mt_40 dX2_replayOrders_32 rfl
theorem e40_33 : Rn X d 40 33 LS (.int x :: ST) M h = Rn X d 40 34 LS (.int x :: .int x :: ST) M h := r_dup mt_40 dX2_replayOrders_33 rfl
theorem e40_33r : Rn X d 40 33 LS (.ref a :: ST) M h = Rn X d 40 34 LS (.ref a :: .ref a :: ST) M h := r_dup mt_40 dX2_replayOrders_33 rfl
theorem e40_34 : Rn X d 40 34 LS (.ref a :: ST) M h = q_g X (M a) 1 0 d 40 37 LS ST M h := s_get mt_40 dX2_replayOrders_34 f_2_46
theorem e40_37 : Rn X d 40 37 LS ST M h = Rn X d 40 38 LS (.int (zN 1) :: ST) M h := r_iconst mt_40 dX2_replayOrders_37 c_ic1
theorem e40_38 : Rn X d 40 38 LS (.int y :: .int x :: ST) M h = Rn X d 40 39 LS (.int (x + y) :: ST) M h := r_iadd mt_40 dX2_replayOrders_38
theorem e40_39 : Rn X d 40 39 LS (.int x :: .ref a :: ST) M h = q_p X (M a) a 1 0 (.int x) d 40 42 LS ST M h := s_putN mt_40 dX2_replayOrders_39 f_2_46 rfl rfl rfl
theorem e40_42 : Rn X d 40 42 (l0 :: some (.ref a) :: t) ST M h = Rn X d 40 43 (l0 :: some (.ref a) :: t) (.ref a :: ST) M h := r_aload_n mt_40 dX2_replayOrders_42 rfl
theorem e40_43 : Rn X d 40 43 LS (.int x :: ST) M h = Rn X d 40 44 LS (.int x :: .int x :: ST) M h := r_dup mt_40 dX2_replayOrders_43 rfl
theorem e40_43r : Rn X d 40 43 LS (.ref a :: ST) M h = Rn X d 40 44 LS (.ref a :: .ref a :: ST) M h := r_dup mt_40 dX2_replayOrders_43 rfl
theorem e40_44 : Rn X d 40 44 LS (.ref a :: ST) M h = q_g X (M a) 1 3 d 40 47 LS ST M h := s_get mt_40 dX2_replayOrders_44 f_2_68
theorem e40_47 : Rn X d 40 47 LS ST M h = Rn X d 40 48 LS (.int (zN 1) :: ST) M h := r_iconst mt_40 dX2_replayOrders_47 c_ic1
theorem e40_48 : Rn X d 40 48 LS (.int y :: .int x :: ST) M h = Rn X d 40 49 LS (.int (x + y) :: ST) M h := r_iadd mt_40 dX2_replayOrders_48
theorem e40_49 : Rn X d 40 49 LS (.int x :: .ref a :: ST) M h = q_p X (M a) a 1 3 (.int x) d 40 52 LS ST M h := s_putN mt_40 dX2_replayOrders_49 f_2_68 rfl rfl rfl
theorem e40_52 (ho : j_one l2 = true) : Rn X d 40 52 (l0 :: l1 :: l2 :: some (.int x) :: t) ST M h = Rn X d 40 55 (l0 :: l1 :: l2 :: some (.int (x + (zN 1))) :: t) ST M h := r_iinc mt_40 dX2_replayOrders_52 rfl (by simp only [List.length_cons]; omega) ho c_ic1 rfl
theorem e40_55 : Rn X d 40 55 LS ST M h = Rn X d 40 2 LS ST M h := r_goto mt_40 dX2_replayOrders_55 rfl
theorem e40_58 : Rn X d 40 58 (l0 :: l1 :: some (.int x) :: t) ST M h = Rn X d 40 59 (l0 :: l1 :: some (.int x) :: t) (.int x :: ST) M h := r_iload_n mt_40 dX2_replayOrders_58 rfl
theorem e40_59 : Rn X d 40 59 LS ([.int x]) M h = some (.inl (some (.int x)), M, h) := r_iret mt_40 dX2_replayOrders_59 rfl
theorem e41_0 : Rn X d 41 0 (l0 :: some (.ref a) :: t) ST M h = Rn X d 41 1 (l0 :: some (.ref a) :: t) (.ref a :: ST) M h := r_aload_n mt_41 dX2_canReplay_0 rfl
theorem e41_1 : Rn X d 41 1 LS (.ref a :: ST) M h = q_g X (M a) 1 2 d 41 4 LS ST M h := s_get mt_41 dX2_canReplay_1 f_2_52
theorem e41_4 : Rn X d 41 4 LS (.int x :: ST) M h = q_eq X x (zN 0) d 41 39 7 LS ST M h := s_ifeq mt_41 dX2_canReplay_4 rfl
theorem e41_7 : Rn X d 41 7 (some (.ref a) :: t) ST M h = Rn X d 41 8 (some (.ref a) :: t) (.ref a :: ST) M h := r_aload_n mt_41 dX2_canReplay_7 rfl
theorem e41_8 : Rn X d 41 8 LS (.ref a :: ST) M h = q_g X (M a) 2 0 d 41 11 LS ST M h := s_get mt_41 dX2_canReplay_8 f_2_12
theorem e41_11 : Rn X d 41 11 (l0 :: some (.ref a) :: t) ST M h = Rn X d 41 12 (l0 :: some (.ref a) :: t) (.ref a :: ST) M h := r_aload_n mt_41 dX2_canReplay_11 rfl
theorem e41_12 : Rn X d 41 12 LS (.ref a :: ST) M h = q_g X (M a) 1 0 d 41 15 LS ST M h := s_get mt_41 dX2_canReplay_12 f_2_46
theorem e41_15 (hcs : Nat.ble (j_cs ST) 8 = true) : Rn X (d + 1) 41 15 LS (.int x :: .ref a :: ST) M h = j_rc (M a) 0 (q_k X (Rn X d 6 0 [some (.ref a), some (.int x)] [] M (j_h0 h)) h (d + 1) 41 18 LS ST) := s_callV mt_41 dX2_canReplay_15 cl_2_71 mt_6 rfl rfl (Nat.le_add_left _ _) rfl rfl rfl rfl hcs
theorem e41_18 : Rn X d 41 18 LS (.int x :: ST) M h = q_eq X x (zN 0) d 41 39 21 LS ST M h := s_ifeq mt_41 dX2_canReplay_18 rfl
theorem e41_21 : Rn X d 41 21 (some (.ref a) :: t) ST M h = Rn X d 41 22 (some (.ref a) :: t) (.ref a :: ST) M h := r_aload_n mt_41 dX2_canReplay_21 rfl
theorem e41_22 : Rn X d 41 22 LS (.ref a :: ST) M h = q_g X (M a) 2 0 d 41 25 LS ST M h := s_get mt_41 dX2_canReplay_22 f_2_12
theorem e41_25 : Rn X d 41 25 (l0 :: some (.ref a) :: t) ST M h = Rn X d 41 26 (l0 :: some (.ref a) :: t) (.ref a :: ST) M h := r_aload_n mt_41 dX2_canReplay_25 rfl
theorem e41_26 : Rn X d 41 26 LS (.ref a :: ST) M h = q_g X (M a) 1 0 d 41 29 LS ST M h := s_get mt_41 dX2_canReplay_26 f_2_46
theorem e41_29 (hcs : Nat.ble (j_cs ST) 8 = true) : Rn X (d + 1) 41 29 LS (.int x :: .ref a :: ST) M h = j_rc (M a) 0 (q_k X (Rn X d 13 0 [some (.ref a), some (.int x)] [] M (j_h0 h)) h (d + 1) 41 32 LS ST) := s_callV mt_41 dX2_canReplay_29 cl_2_75 mt_13 rfl rfl (Nat.le_add_left _ _) rfl rfl rfl rfl hcs
theorem e41_32 : Rn X d 41 32 LS (.int x :: ST) M h = q_eq X x (zN 0) d 41 39 35 LS ST M h := s_ifeq mt_41 dX2_canReplay_32 rfl
theorem e41_35 : Rn X d 41 35 LS ST M h = Rn X d 41 36 LS (.int (zN 1) :: ST) M h := r_iconst mt_41 dX2_canReplay_35 c_ic1
theorem e41_36 : Rn X d 41 36 LS ST M h = Rn X d 41 40 LS ST M h := r_goto mt_41 dX2_canReplay_36 rfl
theorem e41_39 : Rn X d 41 39 LS ST M h = Rn X d 41 40 LS (.int (zN 0) :: ST) M h := r_iconst mt_41 dX2_canReplay_39 c_ic0
theorem e41_40 {v : Nat} (h0 : v < 2) : Rn X d 41 40 LS ([.int (zN v)]) M h = some (.inl (some (.int (zN v))), M, h) := s_zret mt_41 dX2_canReplay_40 rfl h0
theorem e42_0 : Rn X d 42 0 (l0 :: some (.ref a) :: t) ST M h = Rn X d 42 1 (l0 :: some (.ref a) :: t) (.ref a :: ST) M h := r_aload_n mt_42 dX2_takeSnapshot_0 rfl
theorem e42_1 (hcs : Nat.ble (j_cs ST) 8 = true) : Rn X (d + 1) 42 1 LS (.ref a :: ST) M h = j_rc (M a) 1 (q_k X (Rn X d 27 0 [some (.ref a)] [] M (j_h0 h)) h (d + 1) 42 4 LS ST) := s_callV mt_42 dX2_takeSnapshot_1 cl_2_78 mt_27 rfl rfl (Nat.le_add_left _ _) rfl rfl rfl rfl hcs
theorem e42_4 : Rn X d 42 4 (some (.ref a) :: t) ST M h = Rn X d 42 5 (some (.ref a) :: t) (.ref a :: ST) M h := r_aload_n mt_42 dX2_takeSnapshot_4 rfl
theorem e42_5 : Rn X d 42 5 LS (.ref a :: ST) M h = q_g X (M a) 2 0 d 42 8 LS ST M h := s_get mt_42 dX2_takeSnapshot_5 f_2_12
theorem e42_8 : Rn X d 42 8 LS (.ref a :: ST) M h = q_g X (M a) 0 1 d 42 11 LS ST M h := s_get mt_42 dX2_takeSnapshot_8 f_2_81
theorem e42_11 (ho : j_one l1 = true) : Rn X d 42 11 (l0 :: l1 :: l2 :: t) (.int x :: ST) M h = Rn X d 42 12 (l0 :: l1 :: some (.int x) :: t) ST M h := r_istore_n mt_42 dX2_takeSnapshot_11 (by show 2 < _; simp only [List.length_cons]; omega) ho rfl
theorem e42_12 : Rn X d 42 12 (some (.ref a) :: t) ST M h = Rn X d 42 13 (some (.ref a) :: t) (.ref a :: ST) M h := r_aload_n mt_42 dX2_takeSnapshot_12 rfl
theorem e42_13 : Rn X d 42 13 LS (.ref a :: ST) M h = q_g X (M a) 2 0 d 42 16 LS ST M h := s_get mt_42 dX2_takeSnapshot_13 f_2_12
theorem e42_16 : Rn X d 42 16 (some (.ref a) :: t) ST M h = Rn X d 42 17 (some (.ref a) :: t) (.ref a :: ST) M h := r_aload_n mt_42 dX2_takeSnapshot_16 rfl
theorem e42_17 (hcs : Nat.ble (j_cs ST) 8 = true) : Rn X (d + 1) 42 17 LS (.ref a :: ST) M h = j_rc (M a) 2 (q_k X (Rn X d 37 0 [some (.ref a)] [] M (j_h0 h)) h (d + 1) 42 20 LS ST) := s_callV mt_42 dX2_takeSnapshot_17 cl_2_84 mt_37 rfl rfl (Nat.le_add_left _ _) rfl rfl rfl rfl hcs
theorem e42_20 : Rn X d 42 20 LS (.ref a :: ST) M h = q_g X (M a) 1 1 d 42 23 LS ST M h := s_get mt_42 dX2_takeSnapshot_20 f_2_49
theorem e42_23 : Rn X d 42 23 LS (.int x :: .ref a :: ST) M h = q_p X (M a) a 0 1 (.int x) d 42 26 LS ST M h := s_putN mt_42 dX2_takeSnapshot_23 f_2_81 rfl rfl rfl
theorem e42_26 : Rn X d 42 26 (some (.ref a) :: t) ST M h = Rn X d 42 27 (some (.ref a) :: t) (.ref a :: ST) M h := r_aload_n mt_42 dX2_takeSnapshot_26 rfl
theorem e42_27 : Rn X d 42 27 LS (.ref a :: ST) M h = q_g X (M a) 2 0 d 42 30 LS ST M h := s_get mt_42 dX2_takeSnapshot_27 f_2_12
theorem e42_30 : Rn X d 42 30 LS (.ref a :: ST) M h = q_g X (M a) 0 1 d 42 33 LS ST M h := s_get mt_42 dX2_takeSnapshot_30 f_2_81
theorem e42_33 : Rn X d 42 33 (l0 :: l1 :: some (.int x) :: t) ST M h = Rn X d 42 34 (l0 :: l1 :: some (.int x) :: t) (.int x :: ST) M h := r_iload_n mt_42 dX2_takeSnapshot_33 rfl
theorem e42_34 : Rn X d 42 34 LS (.int y :: .int x :: ST) M h = Rn X d 42 35 LS (.int (x - y) :: ST) M h := r_isub mt_42 dX2_takeSnapshot_34
theorem e42_35 : Rn X d 42 35 LS ([.int x]) M h = some (.inl (some (.int x)), M, h) := r_iret mt_42 dX2_takeSnapshot_35 rfl
theorem e43_0 : Rn X d 43 0 LS ST M h = Rn X d 43 1 LS (.int (zN 0) :: ST) M h := r_iconst mt_43 dX2_repairCopies_0 c_ic0
theorem e43_1 (ho : j_one l0 = true) : Rn X d 43 1 (l0 :: l1 :: t) (.int x :: ST) M h = Rn X d 43 2 (l0 :: some (.int x) :: t) ST M h := r_istore_n mt_43 dX2_repairCopies_1 (by show 1 < _; simp only [List.length_cons]; omega) ho rfl
theorem e43_2 : Rn X d 43 2 (some (.ref a) :: t) ST M h = Rn X d 43 3 (some (.ref a) :: t) (.ref a :: ST) M h := r_aload_n mt_43 dX2_repairCopies_2 rfl
theorem e43_3 : Rn X d 43 3 LS (.ref a :: ST) M h = q_g X (M a) 2 0 d 43 6 LS ST M h := s_get mt_43 dX2_repairCopies_3 f_2_12
theorem e43_6 : Rn X d 43 6 LS (.ref a :: ST) M h = q_g X (M a) 0 1 d 43 9 LS ST M h := s_get mt_43 dX2_repairCopies_6 f_2_81
theorem e43_9 (ho : j_one l1 = true) : Rn X d 43 9 (l0 :: l1 :: l2 :: t) (.int x :: ST) M h = Rn X d 43 10 (l0 :: l1 :: some (.int x) :: t) ST M h := r_istore_n mt_43 dX2_repairCopies_9 (by show 2 < _; simp only [List.length_cons]; omega) ho rfl
theorem e43_10 : Rn X d 43 10 (l0 :: l1 :: some (.int x) :: t) ST M h = Rn X d 43 11 (l0 :: l1 :: some (.int x) :: t) (.int x :: ST) M h := r_iload_n mt_43 dX2_repairCopies_10 rfl
theorem e43_11 : Rn X d 43 11 (some (.ref a) :: t) ST M h = Rn X d 43 12 (some (.ref a) :: t) (.ref a :: ST) M h := r_aload_n mt_43 dX2_repairCopies_11 rfl
theorem e43_12 : Rn X d 43 12 LS (.ref a :: ST) M h = q_g X (M a) 2 0 d 43 15 LS ST M h := s_get mt_43 dX2_repairCopies_12 f_2_12
theorem e43_15 : Rn X d 43 15 LS (.ref a :: ST) M h = q_g X (M a) 0 2 d 43 18 LS ST M h := s_get mt_43 dX2_repairCopies_15 f_2_88
theorem e43_18 : Rn X d 43 18 LS (.int y :: .int x :: ST) M h = q_le X y x d 43 46 21 LS ST M h := s_icge mt_43 dX2_repairCopies_18 rfl
theorem e43_21 : Rn X d 43 21 (some (.ref a) :: t) ST M h = Rn X d 43 22 (some (.ref a) :: t) (.ref a :: ST) M h := r_aload_n mt_43 dX2_repairCopies_21 rfl
theorem e43_22 : Rn X d 43 22 (l0 :: l1 :: some (.int x) :: t) ST M h = Rn X d 43 23 (l0 :: l1 :: some (.int x) :: t) (.int x :: ST) M h := r_iload_n mt_43 dX2_repairCopies_22 rfl
theorem e43_23 (hcs : Nat.ble (j_cs ST) 8 = true) : Rn X (d + 1) 43 23 LS (.int x :: .ref a :: ST) M h = j_rc (M a) 2 (q_k X (Rn X d 44 0 [some (.ref a), some (.int x)] [] M (j_h0 h)) h (d + 1) 43 26 LS ST) := s_callV mt_43 dX2_repairCopies_23 cl_2_91 mt_44 rfl rfl (Nat.le_add_left _ _) rfl rfl rfl rfl hcs
theorem e43_26 : Rn X d 43 26 LS (.int x :: ST) M h = q_eq X x (zN 0) d 43 40 29 LS ST M h := s_ifeq mt_43 dX2_repairCopies_26 rfl
theorem e43_29 : Rn X d 43 29 (l0 :: some (.int x) :: t) ST M h = Rn X d 43 30 (l0 :: some (.int x) :: t) (.int x :: ST) M h := r_iload_n mt_43 dX2_repairCopies_29 rfl
theorem e43_30 : Rn X d 43 30 (some (.ref a) :: t) ST M h = Rn X d 43 31 (some (.ref a) :: t) (.ref a :: ST) M h := r_aload_n mt_43 dX2_repairCopies_30 rfl
theorem e43_31 : Rn X d 43 31 LS (.ref a :: ST) M h = q_g X (M a) 2 0 d 43 34 LS ST M h := s_get mt_43 dX2_repairCopies_31 f_2_12
theorem e43_34 : Rn X d 43 34 (l0 :: l1 :: some (.int x) :: t) ST M h = Rn X d 43 35 (l0 :: l1 :: some (.int x) :: t) (.int x :: ST) M h := r_iload_n mt_43 dX2_repairCopies_34 rfl
theorem e43_35 (hcs : Nat.ble (j_cs ST) 8 = true) : Rn X (d + 1) 43 35 LS (.int x :: .ref a :: ST) M h = j_rc (M a) 0 (q_k X (Rn X d 15 0 [some (.ref a), some (.int x), none, none] [] M (j_h0 h)) h (d + 1) 43 38 LS ST) := s_callV mt_43 dX2_repairCopies_35 cl_2_94 mt_15 rfl rfl (Nat.le_add_left _ _) rfl rfl rfl rfl hcs
theorem e43_38 : Rn X d 43 38 LS (.int y :: .int x :: ST) M h = Rn X d 43 39 LS (.int (x + y) :: ST) M h := r_iadd mt_43 dX2_repairCopies_38
theorem e43_39 (ho : j_one l0 = true) : Rn X d 43 39 (l0 :: l1 :: t) (.int x :: ST) M h = Rn X d 43 40 (l0 :: some (.int x) :: t) ST M h := r_istore_n mt_43 dX2_repairCopies_39 (by show 1 < _; simp only [List.length_cons]; omega) ho rfl
theorem e43_40 (ho : j_one l1 = true) : Rn X d 43 40 (l0 :: l1 :: some (.int x) :: t) ST M h = Rn X d 43 43 (l0 :: l1 :: some (.int (x + (zN 1))) :: t) ST M h := r_iinc mt_43 dX2_repairCopies_40 rfl (by simp only [List.length_cons]; omega) ho c_ic1 rfl
theorem e43_43 : Rn X d 43 43 LS ST M h = Rn X d 43 10 LS ST M h := r_goto mt_43 dX2_repairCopies_43 rfl
theorem e43_46 : Rn X d 43 46 (some (.ref a) :: t) ST M h = Rn X d 43 47 (some (.ref a) :: t) (.ref a :: ST) M h := r_aload_n mt_43 dX2_repairCopies_46 rfl
theorem e43_47 : Rn X d 43 47 LS (.int x :: ST) M h = Rn X d 43 48 LS (.int x :: .int x :: ST) M h := r_dup mt_43 dX2_repairCopies_47 rfl
theorem e43_47r : Rn X d 43 47 LS (.ref a :: ST) M h = Rn X d 43 48 LS (.ref a :: .ref a :: ST) M h := r_dup mt_43 dX2_repairCopies_47 rfl
theorem e43_48 : Rn X d 43 48 LS (.ref a :: ST) M h = q_g X (M a) 2 3 d 43 51 LS ST M h := s_get mt_43 dX2_repairCopies_48 f_2_35
theorem e43_51 : Rn X d 43 51 (l0 :: some (.int x) :: t) ST M h = Rn X d 43 52 (l0 :: some (.int x) :: t) (.int x :: ST) M h := r_iload_n mt_43 dX2_repairCopies_51 rfl
theorem e43_52 : Rn X d 43 52 LS (.int y :: .int x :: ST) M h = Rn X d 43 53 LS (.int (x + y) :: ST) M h := r_iadd mt_43 dX2_repairCopies_52
theorem e43_53 : Rn X d 43 53 LS (.int x :: .ref a :: ST) M h = q_p X (M a) a 2 3 (.int x) d 43 56 LS ST M h := s_putN mt_43 dX2_repairCopies_53 f_2_35 rfl rfl rfl
theorem e43_56 : Rn X d 43 56 (l0 :: some (.int x) :: t) ST M h = Rn X d 43 57 (l0 :: some (.int x) :: t) (.int x :: ST) M h := r_iload_n mt_43 dX2_repairCopies_56 rfl
theorem e43_57 : Rn X d 43 57 LS ([.int x]) M h = some (.inl (some (.int x)), M, h) := r_iret mt_43 dX2_repairCopies_57 rfl
theorem e44_0 : Rn X d 44 0 (some (.ref a) :: t) ST M h = Rn X d 44 1 (some (.ref a) :: t) (.ref a :: ST) M h := r_aload_n mt_44 dX2_canRepair_0 rfl
theorem e44_1 : Rn X d 44 1 LS (.ref a :: ST) M h = q_g X (M a) 2 0 d 44 4 LS ST M h := s_get mt_44 dX2_canRepair_1 f_2_12
theorem e44_4 : Rn X d 44 4 (l0 :: some (.int x) :: t) ST M h = Rn X d 44 5 (l0 :: some (.int x) :: t) (.int x :: ST) M h := r_iload_n mt_44 dX2_canRepair_4 rfl
theorem e44_5 (hcs : Nat.ble (j_cs ST) 8 = true) : Rn X (d + 1) 44 5 LS (.int x :: .ref a :: ST) M h = j_rc (M a) 0 (q_k X (Rn X d 13 0 [some (.ref a), some (.int x)] [] M (j_h0 h)) h (d + 1) 44 8 LS ST) := s_callV mt_44 dX2_canRepair_5 cl_2_75 mt_13 rfl rfl (Nat.le_add_left _ _) rfl rfl rfl rfl hcs
theorem e44_8 : Rn X d 44 8 LS (.int x :: ST) M h = q_eq X x (zN 0) d 44 11 33 LS ST M h := s_ifne mt_44 dX2_canRepair_8 rfl
theorem e44_11 : Rn X d 44 11 (some (.ref a) :: t) ST M h = Rn X d 44 12 (some (.ref a) :: t) (.ref a :: ST) M h := r_aload_n mt_44 dX2_canRepair_11 rfl
theorem e44_12 : Rn X d 44 12 LS (.ref a :: ST) M h = q_g X (M a) 2 1 d 44 15 LS ST M h := s_get mt_44 dX2_canRepair_12 f_2_21
theorem e44_15 : Rn X d 44 15 (l0 :: some (.int x) :: t) ST M h = Rn X d 44 16 (l0 :: some (.int x) :: t) (.int x :: ST) M h := r_iload_n mt_44 dX2_canRepair_15 rfl
theorem e44_16 (hcs : Nat.ble (j_cs ST) 8 = true) : Rn X (d + 1) 44 16 LS (.int x :: .ref a :: ST) M h = q_k X (Rn X d 45 0 [some (.ref a), some (.int x)] [] M (j_h0 h)) h (d + 1) 44 19 LS ST := s_callS (Or.inl rfl) mt_44 dX2_canRepair_16 cl_2_98 mt_45 rfl (Nat.le_add_left _ _) rfl rfl rfl rfl hcs
theorem e44_19 : Rn X d 44 19 LS (.int x :: ST) M h = q_eq X x (zN 0) d 44 22 33 LS ST M h := s_ifne mt_44 dX2_canRepair_19 rfl
theorem e44_22 : Rn X d 44 22 (some (.ref a) :: t) ST M h = Rn X d 44 23 (some (.ref a) :: t) (.ref a :: ST) M h := r_aload_n mt_44 dX2_canRepair_22 rfl
theorem e44_23 : Rn X d 44 23 LS (.ref a :: ST) M h = q_g X (M a) 2 2 d 44 26 LS ST M h := s_get mt_44 dX2_canRepair_23 f_2_25
theorem e44_26 : Rn X d 44 26 (l0 :: some (.int x) :: t) ST M h = Rn X d 44 27 (l0 :: some (.int x) :: t) (.int x :: ST) M h := r_iload_n mt_44 dX2_canRepair_26 rfl
theorem e44_27 (hcs : Nat.ble (j_cs ST) 8 = true) : Rn X (d + 1) 44 27 LS (.int x :: .ref a :: ST) M h = q_k X (Rn X d 45 0 [some (.ref a), some (.int x)] [] M (j_h0 h)) h (d + 1) 44 30 LS ST := s_callS (Or.inl rfl) mt_44 dX2_canRepair_27 cl_2_98 mt_45 rfl (Nat.le_add_left _ _) rfl rfl rfl rfl hcs
theorem e44_30 : Rn X d 44 30 LS (.int x :: ST) M h = q_eq X x (zN 0) d 44 37 33 LS ST M h := s_ifeq mt_44 dX2_canRepair_30 rfl
theorem e44_33 : Rn X d 44 33 LS ST M h = Rn X d 44 34 LS (.int (zN 1) :: ST) M h := r_iconst mt_44 dX2_canRepair_33 c_ic1
theorem e44_34 : Rn X d 44 34 LS ST M h = Rn X d 44 38 LS ST M h := r_goto mt_44 dX2_canRepair_34 rfl
theorem e44_37 : Rn X d 44 37 LS ST M h = Rn X d 44 38 LS (.int (zN 0) :: ST) M h := r_iconst mt_44 dX2_canRepair_37 c_ic0
theorem e44_38 {v : Nat} (h0 : v < 2) : Rn X d 44 38 LS ([.int (zN v)]) M h = some (.inl (some (.int (zN v))), M, h) := s_zret mt_44 dX2_canRepair_38 rfl h0
theorem e45_0 : Rn X d 45 0 (some (.ref a) :: t) ST M h = Rn X d 45 1 (some (.ref a) :: t) (.ref a :: ST) M h := r_aload_n mt_45 dX2_knowsOrder_0 rfl
theorem e45_1 : Rn X d 45 1 LS (.ref a :: ST) M h = q_g X (M a) 1 2 d 45 4 LS ST M h := s_get mt_45 dX2_knowsOrder_1 f_2_52
theorem e45_4 : Rn X d 45 4 LS (.int x :: ST) M h = q_eq X x (zN 0) d 45 19 7 LS ST M h := s_ifeq mt_45 dX2_knowsOrder_4 rfl
theorem e45_7 : Rn X d 45 7 (some (.ref a) :: t) ST M h = Rn X d 45 8 (some (.ref a) :: t) (.ref a :: ST) M h := r_aload_n mt_45 dX2_knowsOrder_7 rfl
theorem e45_8 : Rn X d 45 8 LS (.ref a :: ST) M h = q_g X (M a) 1 0 d 45 11 LS ST M h := s_get mt_45 dX2_knowsOrder_8 f_2_46
theorem e45_11 : Rn X d 45 11 (l0 :: some (.int x) :: t) ST M h = Rn X d 45 12 (l0 :: some (.int x) :: t) (.int x :: ST) M h := r_iload_n mt_45 dX2_knowsOrder_11 rfl
theorem e45_12 : Rn X d 45 12 LS (.int y :: .int x :: ST) M h = q_le X x y d 45 19 15 LS ST M h := s_icle mt_45 dX2_knowsOrder_12 rfl
theorem e45_15 : Rn X d 45 15 LS ST M h = Rn X d 45 16 LS (.int (zN 1) :: ST) M h := r_iconst mt_45 dX2_knowsOrder_15 c_ic1
theorem e45_16 : Rn X d 45 16 LS ST M h = Rn X d 45 20 LS ST M h := r_goto mt_45 dX2_knowsOrder_16 rfl
theorem e45_19 : Rn X d 45 19 LS ST M h = Rn X d 45 20 LS (.int (zN 0) :: ST) M h := r_iconst mt_45 dX2_knowsOrder_19 c_ic0
theorem e45_20 {v : Nat} (h0 : v < 2) : Rn X d 45 20 LS ([.int (zN v)]) M h = some (.inl (some (.int (zN v))), M, h) := s_zret mt_45 dX2_knowsOrder_20 rfl h0
theorem e46_0 : Rn X d 46 0 (some (.ref a) :: t) ST M h = Rn X d 46 1 (some (.ref a) :: t) (.ref a :: ST) M h := r_aload_n mt_46 dX3_init_0 rfl
theorem e46_1 (hcs : Nat.ble (j_cs ST) 8 = true) : Rn X (d + 1) 46 1 LS (.ref a :: ST) M h = Rn X (d + 1) 46 4 LS ST M h := s_obj mt_46 dX3_init_1 cl_3_3 hcs
theorem e46_4 : Rn X d 46 4 (some (.ref a) :: t) ST M h = Rn X d 46 5 (some (.ref a) :: t) (.ref a :: ST) M h := r_aload_n mt_46 dX3_init_4 rfl
theorem e46_5 : Rn X d 46 5 LS ST M h = Rn X d 46 6 LS (.int (zN 0) :: ST) M h := r_iconst mt_46 dX3_init_5 c_ic0
theorem e46_6 : Rn X d 46 6 LS (.int x :: .ref a :: ST) M h = q_p X (M a) a 3 0 (.int x) d 46 9 LS ST M h := s_putN mt_46 dX3_init_6 f_3_9 rfl rfl rfl
theorem e46_9 : Rn X d 46 9 (some (.ref a) :: t) ST M h = Rn X d 46 10 (some (.ref a) :: t) (.ref a :: ST) M h := r_aload_n mt_46 dX3_init_9 rfl
theorem e46_10 : Rn X d 46 10 LS ST M h = Rn X d 46 12 LS (.int (zN 100) :: ST) M h := r_bipush mt_46 dX3_init_10 c_bi100
theorem e46_12 {n v c z : Nat} (h0 : n < 1000) (h1 : v ≤ 1000) : Rn X d 46 12 LS (.int (zN v) :: ST) M (n, true, c, z) = Rn X d 46 14 LS (.ref n :: ST) (va_up M n (.inl (1, v, .inl (fun _ => 0)))) (n + 1, true, c + 1, z + v) := s_newB mt_46 dX3_init_12 h0 h1
theorem e46_14 : Rn X d 46 14 LS (.ref b :: .ref a :: ST) M h = q_p X (M a) a 3 1 (.ref b) d 46 17 LS ST M h := s_putF mt_46 dX3_init_14 f_3_15 rfl (by decide +kernel) rfl rfl
theorem e46_17 : Rn X d 46 17 (some (.ref a) :: t) ST M h = Rn X d 46 18 (some (.ref a) :: t) (.ref a :: ST) M h := r_aload_n mt_46 dX3_init_17 rfl
theorem e46_18 : Rn X d 46 18 LS ST M h = Rn X d 46 19 LS (.int (zN 0) :: ST) M h := r_iconst mt_46 dX3_init_18 c_ic0
theorem e46_19 : Rn X d 46 19 LS (.int x :: .ref a :: ST) M h = q_p X (M a) a 3 2 (.int x) d 46 22 LS ST M h := s_putN mt_46 dX3_init_19 f_3_19 rfl rfl rfl
theorem e46_22 : Rn X d 46 22 (some (.ref a) :: t) ST M h = Rn X d 46 23 (some (.ref a) :: t) (.ref a :: ST) M h := r_aload_n mt_46 dX3_init_22 rfl
theorem e46_23 : Rn X d 46 23 LS ST M h = Rn X d 46 24 LS (.int (zM 0) :: ST) M h := r_iconst mt_46 dX3_init_23 c_icm1
theorem e46_24 : Rn X d 46 24 LS (.int x :: .ref a :: ST) M h = q_p X (M a) a 3 3 (.int x) d 46 27 LS ST M h := s_putN mt_46 dX3_init_24 f_3_22 rfl rfl rfl
theorem e46_27 : Rn X d 46 27 (some (.ref a) :: t) ST M h = Rn X d 46 28 (some (.ref a) :: t) (.ref a :: ST) M h := r_aload_n mt_46 dX3_init_27 rfl
theorem e46_28 : Rn X d 46 28 LS ST M h = Rn X d 46 29 LS (.int (zN 0) :: ST) M h := r_iconst mt_46 dX3_init_28 c_ic0
theorem e46_29 : Rn X d 46 29 LS (.int x :: .ref a :: ST) M h = q_p X (M a) a 3 4 (.int x) d 46 32 LS ST M h := s_putN mt_46 dX3_init_29 f_3_25 rfl rfl rfl
theorem e46_32 : Rn X d 46 32 (some (.ref a) :: t) ST M h = Rn X d 46 33 (some (.ref a) :: t) (.ref a :: ST) M h := r_aload_n mt_46 dX3_init_32 rfl
theorem e46_33 : Rn X d 46 33 LS ST M h = Rn X d 46 34 LS (.int (zN 0) :: ST) M h := r_iconst mt_46 dX3_init_33 c_ic0
theorem e46_34 : Rn X d 46 34 LS (.int x :: .ref a :: ST) M h = q_p X (M a) a 3 5 (.int x) d 46 37 LS ST M h := s_putN mt_46 dX3_init_34 f_3_28 rfl rfl rfl
theorem e46_37 : Rn X d 46 37 (some (.ref a) :: t) ST M h = Rn X d 46 38 (some (.ref a) :: t) (.ref a :: ST) M h := r_aload_n mt_46 dX3_init_37 rfl
theorem e46_38 : Rn X d 46 38 LS ST M h = Rn X d 46 39 LS (.int (zN 0) :: ST) M h := r_iconst mt_46 dX3_init_38 c_ic0
theorem e46_39 : Rn X d 46 39 LS (.int x :: .ref a :: ST) M h = q_p X (M a) a 3 6 (.int x) d 46 42 LS ST M h := s_putN mt_46 dX3_init_39 f_3_31 rfl rfl rfl
theorem e46_42 : Rn X d 46 42 LS [] M h = some (.inl none, M, h) := r_vret mt_46 dX3_init_42 rfl
theorem e47_0 : Rn X d 47 0 (some (.ref a) :: t) ST M h = Rn X d 47 1 (some (.ref a) :: t) (.ref a :: ST) M h := r_aload_n mt_47 dX3_isFull_0 rfl
theorem e47_1 : Rn X d 47 1 LS (.ref a :: ST) M h = q_g X (M a) 3 0 d 47 4 LS ST M h := s_get mt_47 dX3_isFull_1 f_3_9
theorem e47_4 : Rn X d 47 4 LS ST M h = Rn X d 47 6 LS (.int (zN 100) :: ST) M h := r_bipush mt_47 dX3_isFull_4 c_bi100
theorem e47_6 : Rn X d 47 6 LS (.int y :: .int x :: ST) M h = q_lt X x y d 47 13 9 LS ST M h := s_iclt mt_47 dX3_isFull_6 rfl
theorem e47_9 : Rn X d 47 9 LS ST M h = Rn X d 47 10 LS (.int (zN 1) :: ST) M h := r_iconst mt_47 dX3_isFull_9 c_ic1
theorem e47_10 : Rn X d 47 10 LS ST M h = Rn X d 47 14 LS ST M h := r_goto mt_47 dX3_isFull_10 rfl
theorem e47_13 : Rn X d 47 13 LS ST M h = Rn X d 47 14 LS (.int (zN 0) :: ST) M h := r_iconst mt_47 dX3_isFull_13 c_ic0
theorem e47_14 {v : Nat} (h0 : v < 2) : Rn X d 47 14 LS ([.int (zN v)]) M h = some (.inl (some (.int (zN v))), M, h) := s_zret mt_47 dX3_isFull_14 rfl h0
theorem e48_0 : Rn X d 48 0 (some (.ref a) :: t) ST M h = Rn X d 48 1 (some (.ref a) :: t) (.ref a :: ST) M h := r_aload_n mt_48 dX3_add_0 rfl
theorem e48_1 : Rn X d 48 1 LS (.ref a :: ST) M h = q_g X (M a) 3 1 d 48 4 LS ST M h := s_get mt_48 dX3_add_1 f_3_15
theorem e48_4 : Rn X d 48 4 (some (.ref a) :: t) ST M h = Rn X d 48 5 (some (.ref a) :: t) (.ref a :: ST) M h := r_aload_n mt_48 dX3_add_4 rfl
theorem e48_5 : Rn X d 48 5 LS (.ref a :: ST) M h = q_g X (M a) 3 0 d 48 8 LS ST M h := s_get mt_48 dX3_add_5 f_3_9
theorem e48_8 : Rn X d 48 8 (l0 :: some (.int x) :: t) ST M h = Rn X d 48 9 (l0 :: some (.int x) :: t) (.int x :: ST) M h := r_iload_n mt_48 dX3_add_8 rfl
theorem e48_9 : Rn X d 48 9 LS (.int x :: ST) M h = Rn X d 48 10 LS (.int x.toInt8.toInt32 :: ST) M h := r_i2b mt_48 dX3_add_9
theorem e48_10 : Rn X d 48 10 LS (.int y :: .int x :: .ref a :: ST) M h = q_sB X (M a) a x y d 48 11 LS ST M h := s_bast mt_48 dX3_add_10
theorem e48_11 : Rn X d 48 11 (some (.ref a) :: t) ST M h = Rn X d 48 12 (some (.ref a) :: t) (.ref a :: ST) M h := r_aload_n mt_48 dX3_add_11 rfl
theorem e48_12 : Rn X d 48 12 LS (.int x :: ST) M h = Rn X d 48 13 LS (.int x :: .int x :: ST) M h := r_dup mt_48 dX3_add_12 rfl
theorem e48_12r : Rn X d 48 12 LS (.ref a :: ST) M h = Rn X d 48 13 LS (.ref a :: .ref a :: ST) M h := r_dup mt_48 dX3_add_12 rfl
theorem e48_13 : Rn X d 48 13 LS (.ref a :: ST) M h = q_g X (M a) 3 0 d 48 16 LS ST M h := s_get mt_48 dX3_add_13 f_3_9
theorem e48_16 : Rn X d 48 16 LS ST M h = Rn X d 48 17 LS (.int (zN 1) :: ST) M h := r_iconst mt_48 dX3_add_16 c_ic1
theorem e48_17 : Rn X d 48 17 LS (.int y :: .int x :: ST) M h = Rn X d 48 18 LS (.int (x + y) :: ST) M h := r_iadd mt_48 dX3_add_17
theorem e48_18 : Rn X d 48 18 LS (.int x :: .ref a :: ST) M h = q_p X (M a) a 3 0 (.int x) d 48 21 LS ST M h := s_putN mt_48 dX3_add_18 f_3_9 rfl rfl rfl
theorem e48_21 : Rn X d 48 21 (some (.ref a) :: t) ST M h = Rn X d 48 22 (some (.ref a) :: t) (.ref a :: ST) M h := r_aload_n mt_48 dX3_add_21 rfl
theorem e48_22 : Rn X d 48 22 LS (.ref a :: ST) M h = q_g X (M a) 3 0 d 48 25 LS ST M h := s_get mt_48 dX3_add_22 f_3_9
theorem e48_25 : Rn X d 48 25 LS ([.int x]) M h = some (.inl (some (.int x)), M, h) := r_iret mt_48 dX3_add_25 rfl
theorem e49_0 : Rn X d 49 0 (some (.ref a) :: t) ST M h = Rn X d 49 1 (some (.ref a) :: t) (.ref a :: ST) M h := r_aload_n mt_49 dX3_clear_0 rfl
theorem e49_1 : Rn X d 49 1 LS (.ref a :: ST) M h = q_g X (M a) 3 0 d 49 4 LS ST M h := s_get mt_49 dX3_clear_1 f_3_9
theorem e49_4 (ho : j_one l0 = true) : Rn X d 49 4 (l0 :: l1 :: t) (.int x :: ST) M h = Rn X d 49 5 (l0 :: some (.int x) :: t) ST M h := r_istore_n mt_49 dX3_clear_4 (by show 1 < _; simp only [List.length_cons]; omega) ho rfl
theorem e49_5 : Rn X d 49 5 (some (.ref a) :: t) ST M h = Rn X d 49 6 (some (.ref a) :: t) (.ref a :: ST) M h := r_aload_n mt_49 dX3_clear_5 rfl
theorem e49_6 : Rn X d 49 6 LS ST M h = Rn X d 49 7 LS (.int (zN 0) :: ST) M h := r_iconst mt_49 dX3_clear_6 c_ic0
theorem e49_7 : Rn X d 49 7 LS (.int x :: .ref a :: ST) M h = q_p X (M a) a 3 0 (.int x) d 49 10 LS ST M h := s_putN mt_49 dX3_clear_7 f_3_9 rfl rfl rfl
theorem e49_10 : Rn X d 49 10 (l0 :: some (.int x) :: t) ST M h = Rn X d 49 11 (l0 :: some (.int x) :: t) (.int x :: ST) M h := r_iload_n mt_49 dX3_clear_10 rfl
theorem e49_11 : Rn X d 49 11 LS ([.int x]) M h = some (.inl (some (.int x)), M, h) := r_iret mt_49 dX3_clear_11 rfl
theorem e50_0 : Rn X d 50 0 (l0 :: some (.int x) :: t) ST M h = Rn X d 50 1 (l0 :: some (.int x) :: t) (.int x :: ST) M h := r_iload_n mt_50 dX3_byteAt_0 rfl
theorem e50_1 : Rn X d 50 1 LS (.int x :: ST) M h = q_lt X x (zN 0) d 50 21 4 LS ST M h := s_iflt mt_50 dX3_byteAt_1 rfl
theorem e50_4 : Rn X d 50 4 (l0 :: some (.int x) :: t) ST M h = Rn X d 50 5 (l0 :: some (.int x) :: t) (.int x :: ST) M h := r_iload_n mt_50 dX3_byteAt_4 rfl
theorem e50_5 : Rn X d 50 5 (some (.ref a) :: t) ST M h = Rn X d 50 6 (some (.ref a) :: t) (.ref a :: ST) M h := r_aload_n mt_50 dX3_byteAt_5 rfl
theorem e50_6 : Rn X d 50 6 LS (.ref a :: ST) M h = q_g X (M a) 3 0 d 50 9 LS ST M h := s_get mt_50 dX3_byteAt_6 f_3_9
theorem e50_9 : Rn X d 50 9 LS (.int y :: .int x :: ST) M h = q_le X y x d 50 21 12 LS ST M h := s_icge mt_50 dX3_byteAt_9 rfl
theorem e50_12 : Rn X d 50 12 (some (.ref a) :: t) ST M h = Rn X d 50 13 (some (.ref a) :: t) (.ref a :: ST) M h := r_aload_n mt_50 dX3_byteAt_12 rfl
theorem e50_13 : Rn X d 50 13 LS (.ref a :: ST) M h = q_g X (M a) 3 1 d 50 16 LS ST M h := s_get mt_50 dX3_byteAt_13 f_3_15
theorem e50_16 : Rn X d 50 16 (l0 :: some (.int x) :: t) ST M h = Rn X d 50 17 (l0 :: some (.int x) :: t) (.int x :: ST) M h := r_iload_n mt_50 dX3_byteAt_16 rfl
theorem e50_17 : Rn X d 50 17 LS (.int x :: .ref a :: ST) M h = q_lB X (M a) x d 50 18 LS ST M h := s_bald mt_50 dX3_byteAt_17
theorem e50_18 : Rn X d 50 18 LS ST M h = Rn X d 50 22 LS ST M h := r_goto mt_50 dX3_byteAt_18 rfl
theorem e50_21 : Rn X d 50 21 LS ST M h = Rn X d 50 22 LS (.int (zM 0) :: ST) M h := r_iconst mt_50 dX3_byteAt_21 c_icm1
theorem e50_22 : Rn X d 50 22 LS ([.int x]) M h = some (.inl (some (.int x)), M, h) := r_iret mt_50 dX3_byteAt_22 rfl
theorem e51_0 : Rn X d 51 0 (some (.ref a) :: t) ST M h = Rn X d 51 1 (some (.ref a) :: t) (.ref a :: ST) M h := r_aload_n mt_51 dX3_goToStart_0 rfl
theorem e51_1 : Rn X d 51 1 LS ST M h = Rn X d 51 2 LS (.int (zN 0) :: ST) M h := r_iconst mt_51 dX3_goToStart_1 c_ic0
theorem e51_2 : Rn X d 51 2 LS (.int x :: .ref a :: ST) M h = q_p X (M a) a 3 2 (.int x) d 51 5 LS ST M h := s_putN mt_51 dX3_goToStart_2 f_3_19 rfl rfl rfl
theorem e51_5 : Rn X d 51 5 LS [] M h = some (.inl none, M, h) := r_vret mt_51 dX3_goToStart_5 rfl
theorem e52_0 : Rn X d 52 0 (some (.ref a) :: t) ST M h = Rn X d 52 1 (some (.ref a) :: t) (.ref a :: ST) M h := r_aload_n mt_52 dX3_isAtEnd_0 rfl
theorem e52_1 : Rn X d 52 1 LS (.ref a :: ST) M h = q_g X (M a) 3 2 d 52 4 LS ST M h := s_get mt_52 dX3_isAtEnd_1 f_3_19
theorem e52_4 : Rn X d 52 4 (some (.ref a) :: t) ST M h = Rn X d 52 5 (some (.ref a) :: t) (.ref a :: ST) M h := r_aload_n mt_52 dX3_isAtEnd_4 rfl
theorem e52_5 : Rn X d 52 5 LS (.ref a :: ST) M h = q_g X (M a) 3 0 d 52 8 LS ST M h := s_get mt_52 dX3_isAtEnd_5 f_3_9
theorem e52_8 : Rn X d 52 8 LS (.int y :: .int x :: ST) M h = q_lt X x y d 52 15 11 LS ST M h := s_iclt mt_52 dX3_isAtEnd_8 rfl
theorem e52_11 : Rn X d 52 11 LS ST M h = Rn X d 52 12 LS (.int (zN 1) :: ST) M h := r_iconst mt_52 dX3_isAtEnd_11 c_ic1
theorem e52_12 : Rn X d 52 12 LS ST M h = Rn X d 52 16 LS ST M h := r_goto mt_52 dX3_isAtEnd_12 rfl
theorem e52_15 : Rn X d 52 15 LS ST M h = Rn X d 52 16 LS (.int (zN 0) :: ST) M h := r_iconst mt_52 dX3_isAtEnd_15 c_ic0
theorem e52_16 {v : Nat} (h0 : v < 2) : Rn X d 52 16 LS ([.int (zN v)]) M h = some (.inl (some (.int (zN v))), M, h) := s_zret mt_52 dX3_isAtEnd_16 rfl h0
theorem e53_0 : Rn X d 53 0 (some (.ref a) :: t) ST M h = Rn X d 53 1 (some (.ref a) :: t) (.ref a :: ST) M h := r_aload_n mt_53 dX3_findSyntaxError_0 rfl
theorem e53_1 (hcs : Nat.ble (j_cs ST) 8 = true) : Rn X (d + 1) 53 1 LS (.ref a :: ST) M h = j_rc (M a) 3 (q_k X (Rn X d 51 0 [some (.ref a)] [] M (j_h0 h)) h (d + 1) 53 4 LS ST) := s_callV mt_53 dX3_findSyntaxError_1 cl_3_34 mt_51 rfl rfl (Nat.le_add_left _ _) rfl rfl rfl rfl hcs
theorem e53_4 : Rn X d 53 4 LS ST M h = Rn X d 53 5 LS (.int (zN 0) :: ST) M h := r_iconst mt_53 dX3_findSyntaxError_4 c_ic0
theorem e53_5 (ho : j_one l0 = true) : Rn X d 53 5 (l0 :: l1 :: t) (.int x :: ST) M h = Rn X d 53 6 (l0 :: some (.int x) :: t) ST M h := r_istore_n mt_53 dX3_findSyntaxError_5 (by show 1 < _; simp only [List.length_cons]; omega) ho rfl
theorem e53_6 : Rn X d 53 6 (l0 :: some (.int x) :: t) ST M h = Rn X d 53 7 (l0 :: some (.int x) :: t) (.int x :: ST) M h := r_iload_n mt_53 dX3_findSyntaxError_6 rfl
theorem e53_7 : Rn X d 53 7 LS ST M h = Rn X d 53 9 LS (.int (zN 100) :: ST) M h := r_bipush mt_53 dX3_findSyntaxError_7 c_bi100
theorem e53_9 : Rn X d 53 9 LS (.int y :: .int x :: ST) M h = q_le X y x d 53 37 12 LS ST M h := s_icge mt_53 dX3_findSyntaxError_9 rfl
theorem e53_12 : Rn X d 53 12 (some (.ref a) :: t) ST M h = Rn X d 53 13 (some (.ref a) :: t) (.ref a :: ST) M h := r_aload_n mt_53 dX3_findSyntaxError_12 rfl
theorem e53_13 (hcs : Nat.ble (j_cs ST) 8 = true) : Rn X (d + 1) 53 13 LS (.ref a :: ST) M h = j_rc (M a) 3 (q_k X (Rn X d 52 0 [some (.ref a)] [] M (j_h0 h)) h (d + 1) 53 16 LS ST) := s_callV mt_53 dX3_findSyntaxError_13 cl_3_37 mt_52 rfl rfl (Nat.le_add_left _ _) rfl rfl rfl rfl hcs
theorem e53_16 : Rn X d 53 16 LS (.int x :: ST) M h = q_eq X x (zN 0) d 53 19 37 LS ST M h := s_ifne mt_53 dX3_findSyntaxError_16 rfl
theorem e53_19 : Rn X d 53 19 (some (.ref a) :: t) ST M h = Rn X d 53 20 (some (.ref a) :: t) (.ref a :: ST) M h := r_aload_n mt_53 dX3_findSyntaxError_19 rfl
theorem e53_20 (hcs : Nat.ble (j_cs ST) 8 = true) : Rn X (d + 1) 53 20 LS (.ref a :: ST) M h = j_rc (M a) 3 (q_k X (Rn X d 54 0 [some (.ref a)] [] M (j_h0 h)) h (d + 1) 53 23 LS ST) := s_callV mt_53 dX3_findSyntaxError_20 cl_3_41 mt_54 rfl rfl (Nat.le_add_left _ _) rfl rfl rfl rfl hcs
theorem e53_23 : Rn X d 53 23 LS (.int x :: ST) M h = q_eq X x (zN 0) d 53 26 31 LS ST M h := s_ifne mt_53 dX3_findSyntaxError_23 rfl
theorem e53_26 : Rn X d 53 26 (some (.ref a) :: t) ST M h = Rn X d 53 27 (some (.ref a) :: t) (.ref a :: ST) M h := r_aload_n mt_53 dX3_findSyntaxError_26 rfl
theorem e53_27 : Rn X d 53 27 LS (.ref a :: ST) M h = q_g X (M a) 3 2 d 53 30 LS ST M h := s_get mt_53 dX3_findSyntaxError_27 f_3_19
theorem e53_30 : Rn X d 53 30 LS ([.int x]) M h = some (.inl (some (.int x)), M, h) := r_iret mt_53 dX3_findSyntaxError_30 rfl
theorem e53_31 (ho : j_one l0 = true) : Rn X d 53 31 (l0 :: some (.int x) :: t) ST M h = Rn X d 53 34 (l0 :: some (.int (x + (zN 1))) :: t) ST M h := r_iinc mt_53 dX3_findSyntaxError_31 rfl (by simp only [List.length_cons]; omega) ho c_ic1 rfl
theorem e53_34 : Rn X d 53 34 LS ST M h = Rn X d 53 6 LS ST M h := r_goto mt_53 dX3_findSyntaxError_34 rfl
theorem e53_37 : Rn X d 53 37 LS ST M h = Rn X d 53 38 LS (.int (zM 0) :: ST) M h := r_iconst mt_53 dX3_findSyntaxError_37 c_icm1
theorem e53_38 : Rn X d 53 38 LS ([.int x]) M h = some (.inl (some (.int x)), M, h) := r_iret mt_53 dX3_findSyntaxError_38 rfl
theorem e54_0 : Rn X d 54 0 (some (.ref a) :: t) ST M h = Rn X d 54 1 (some (.ref a) :: t) (.ref a :: ST) M h := r_aload_n mt_54 dX3_readCommand_0 rfl
theorem e54_1 : Rn X d 54 1 (some (.ref a) :: t) ST M h = Rn X d 54 2 (some (.ref a) :: t) (.ref a :: ST) M h := r_aload_n mt_54 dX3_readCommand_1 rfl
theorem e54_2 : Rn X d 54 2 (some (.ref a) :: t) ST M h = Rn X d 54 3 (some (.ref a) :: t) (.ref a :: ST) M h := r_aload_n mt_54 dX3_readCommand_2 rfl
theorem e54_3 : Rn X d 54 3 LS (.ref a :: ST) M h = q_g X (M a) 3 2 d 54 6 LS ST M h := s_get mt_54 dX3_readCommand_3 f_3_19
theorem e54_6 (hcs : Nat.ble (j_cs ST) 8 = true) : Rn X (d + 1) 54 6 LS (.int x :: .ref a :: ST) M h = j_rc (M a) 3 (q_k X (Rn X d 50 0 [some (.ref a), some (.int x)] [] M (j_h0 h)) h (d + 1) 54 9 LS ST) := s_callV mt_54 dX3_readCommand_6 cl_3_44 mt_50 rfl rfl (Nat.le_add_left _ _) rfl rfl rfl rfl hcs
theorem e54_9 : Rn X d 54 9 LS (.int x :: .ref a :: ST) M h = q_p X (M a) a 3 3 (.int x) d 54 12 LS ST M h := s_putN mt_54 dX3_readCommand_9 f_3_22 rfl rfl rfl
theorem e54_12 : Rn X d 54 12 (some (.ref a) :: t) ST M h = Rn X d 54 13 (some (.ref a) :: t) (.ref a :: ST) M h := r_aload_n mt_54 dX3_readCommand_12 rfl
theorem e54_13 : Rn X d 54 13 LS (.ref a :: ST) M h = q_g X (M a) 3 3 d 54 16 LS ST M h := s_get mt_54 dX3_readCommand_13 f_3_22
theorem e54_16_99 : Rn X d 54 16 LS (.int (zN 99) :: ST) M h = Rn X d 54 264 LS ST M h := s_tab (off := 248) mt_54 dX3_readCommand_16 (by decide) (by decide) (by decide +kernel) rfl
theorem e54_16_100 : Rn X d 54 16 LS (.int (zN 100) :: ST) M h = Rn X d 54 298 LS ST M h := s_tab (off := 282) mt_54 dX3_readCommand_16 (by decide) (by decide) (by decide +kernel) rfl
theorem e54_16_101 : Rn X d 54 16 LS (.int (zN 101) :: ST) M h = Rn X d 54 298 LS ST M h := s_tab (off := 282) mt_54 dX3_readCommand_16 (by decide) (by decide) (by decide +kernel) rfl
theorem e54_16_102 : Rn X d 54 16 LS (.int (zN 102) :: ST) M h = Rn X d 54 298 LS ST M h := s_tab (off := 282) mt_54 dX3_readCommand_16 (by decide) (by decide) (by decide +kernel) rfl
theorem e54_16_103 : Rn X d 54 16 LS (.int (zN 103) :: ST) M h = Rn X d 54 298 LS ST M h := s_tab (off := 282) mt_54 dX3_readCommand_16 (by decide) (by decide) (by decide +kernel) rfl
theorem e54_16_104 : Rn X d 54 16 LS (.int (zN 104) :: ST) M h = Rn X d 54 298 LS ST M h := s_tab (off := 282) mt_54 dX3_readCommand_16 (by decide) (by decide) (by decide +kernel) rfl
theorem e54_16_105 : Rn X d 54 16 LS (.int (zN 105) :: ST) M h = Rn X d 54 298 LS ST M h := s_tab (off := 282) mt_54 dX3_readCommand_16 (by decide) (by decide) (by decide +kernel) rfl
theorem e54_16_106 : Rn X d 54 16 LS (.int (zN 106) :: ST) M h = Rn X d 54 298 LS ST M h := s_tab (off := 282) mt_54 dX3_readCommand_16 (by decide) (by decide) (by decide +kernel) rfl
theorem e54_16_107 : Rn X d 54 16 LS (.int (zN 107) :: ST) M h = Rn X d 54 298 LS ST M h := s_tab (off := 282) mt_54 dX3_readCommand_16 (by decide) (by decide) (by decide +kernel) rfl
theorem e54_16_108 : Rn X d 54 16 LS (.int (zN 108) :: ST) M h = Rn X d 54 112 LS ST M h := s_tab (off := 96) mt_54 dX3_readCommand_16 (by decide) (by decide) (by decide +kernel) rfl
theorem e54_16_109 : Rn X d 54 16 LS (.int (zN 109) :: ST) M h = Rn X d 54 163 LS ST M h := s_tab (off := 147) mt_54 dX3_readCommand_16 (by decide) (by decide) (by decide +kernel) rfl
theorem e54_16_110 : Rn X d 54 16 LS (.int (zN 110) :: ST) M h = Rn X d 54 298 LS ST M h := s_tab (off := 282) mt_54 dX3_readCommand_16 (by decide) (by decide) (by decide +kernel) rfl
theorem e54_16_111 : Rn X d 54 16 LS (.int (zN 111) :: ST) M h = Rn X d 54 298 LS ST M h := s_tab (off := 282) mt_54 dX3_readCommand_16 (by decide) (by decide) (by decide +kernel) rfl
theorem e54_16_112 : Rn X d 54 16 LS (.int (zN 112) :: ST) M h = Rn X d 54 298 LS ST M h := s_tab (off := 282) mt_54 dX3_readCommand_16 (by decide) (by decide) (by decide +kernel) rfl
theorem e54_16_113 : Rn X d 54 16 LS (.int (zN 113) :: ST) M h = Rn X d 54 298 LS ST M h := s_tab (off := 282) mt_54 dX3_readCommand_16 (by decide) (by decide) (by decide +kernel) rfl
theorem e54_16_114 : Rn X d 54 16 LS (.int (zN 114) :: ST) M h = Rn X d 54 223 LS ST M h := s_tab (off := 207) mt_54 dX3_readCommand_16 (by decide) (by decide) (by decide +kernel) rfl
theorem e54_16_115 : Rn X d 54 16 LS (.int (zN 115) :: ST) M h = Rn X d 54 163 LS ST M h := s_tab (off := 147) mt_54 dX3_readCommand_16 (by decide) (by decide) (by decide +kernel) rfl
theorem e54_16_116 : Rn X d 54 16 LS (.int (zN 116) :: ST) M h = Rn X d 54 264 LS ST M h := s_tab (off := 248) mt_54 dX3_readCommand_16 (by decide) (by decide) (by decide +kernel) rfl
theorem e54_16_117 : Rn X d 54 16 LS (.int (zN 117) :: ST) M h = Rn X d 54 112 LS ST M h := s_tab (off := 96) mt_54 dX3_readCommand_16 (by decide) (by decide) (by decide +kernel) rfl
theorem e54_16_118 : Rn X d 54 16 LS (.int (zN 118) :: ST) M h = Rn X d 54 163 LS ST M h := s_tab (off := 147) mt_54 dX3_readCommand_16 (by decide) (by decide) (by decide +kernel) rfl
theorem e54_16_h {v : Nat} (h0 : v < 2147483648) (h1 : 118 < v) : Rn X d 54 16 LS (.int (zN v) :: ST) M h = Rn X d 54 298 LS ST M h := s_tabD mt_54 dX3_readCommand_16 rfl h0 (Or.inr (by omega))
theorem e54_16_l {v : Nat} (h1 : v < 99) : Rn X d 54 16 LS (.int (zN v) :: ST) M h = Rn X d 54 298 LS ST M h := s_tabD mt_54 dX3_readCommand_16 rfl (by omega) (Or.inl (by omega))
theorem e54_16_m {v : Nat} (h0 : v < 2147483648) : Rn X d 54 16 LS (.int (zM v) :: ST) M h = Rn X d 54 298 LS ST M h := s_tabM mt_54 dX3_readCommand_16 rfl (by decide) h0
theorem e54_112 : Rn X d 54 112 (some (.ref a) :: t) ST M h = Rn X d 54 113 (some (.ref a) :: t) (.ref a :: ST) M h := r_aload_n mt_54 dX3_readCommand_112 rfl
theorem e54_113 : Rn X d 54 113 (some (.ref a) :: t) ST M h = Rn X d 54 114 (some (.ref a) :: t) (.ref a :: ST) M h := r_aload_n mt_54 dX3_readCommand_113 rfl
theorem e54_114 : Rn X d 54 114 LS (.ref a :: ST) M h = q_g X (M a) 3 3 d 54 117 LS ST M h := s_get mt_54 dX3_readCommand_114 f_3_22
theorem e54_117 (hcs : Nat.ble (j_cs ST) 8 = true) : Rn X (d + 1) 54 117 LS (.int x :: .ref a :: ST) M h = j_rc (M a) 3 (q_k X (Rn X d 55 0 [some (.ref a), some (.int x)] [] M (j_h0 h)) h (d + 1) 54 120 LS ST) := s_callV mt_54 dX3_readCommand_117 cl_3_48 mt_55 rfl rfl (Nat.le_add_left _ _) rfl rfl rfl rfl hcs
theorem e54_120 : Rn X d 54 120 LS (.int x :: ST) M h = q_eq X x (zN 0) d 54 161 123 LS ST M h := s_ifeq mt_54 dX3_readCommand_120 rfl
theorem e54_123 : Rn X d 54 123 (some (.ref a) :: t) ST M h = Rn X d 54 124 (some (.ref a) :: t) (.ref a :: ST) M h := r_aload_n mt_54 dX3_readCommand_123 rfl
theorem e54_124 : Rn X d 54 124 LS ST M h = Rn X d 54 126 LS (.int (zN 8) :: ST) M h := r_bipush mt_54 dX3_readCommand_124 c_bi8
theorem e54_126 (hcs : Nat.ble (j_cs ST) 8 = true) : Rn X (d + 1) 54 126 LS (.int x :: .ref a :: ST) M h = j_rc (M a) 3 (q_k X (Rn X d 56 0 [some (.ref a), some (.int x)] [] M (j_h0 h)) h (d + 1) 54 129 LS ST) := s_callV mt_54 dX3_readCommand_126 cl_3_52 mt_56 rfl rfl (Nat.le_add_left _ _) rfl rfl rfl rfl hcs
theorem e54_129 : Rn X d 54 129 LS (.int x :: ST) M h = q_eq X x (zN 0) d 54 161 132 LS ST M h := s_ifeq mt_54 dX3_readCommand_129 rfl
theorem e54_132 : Rn X d 54 132 (some (.ref a) :: t) ST M h = Rn X d 54 133 (some (.ref a) :: t) (.ref a :: ST) M h := r_aload_n mt_54 dX3_readCommand_132 rfl
theorem e54_133 : Rn X d 54 133 LS ST M h = Rn X d 54 135 LS (.int (zN 44) :: ST) M h := r_bipush mt_54 dX3_readCommand_133 c_bi44
theorem e54_135 (hcs : Nat.ble (j_cs ST) 8 = true) : Rn X (d + 1) 54 135 LS (.int x :: .ref a :: ST) M h = j_rc (M a) 3 (q_k X (Rn X d 55 0 [some (.ref a), some (.int x)] [] M (j_h0 h)) h (d + 1) 54 138 LS ST) := s_callV mt_54 dX3_readCommand_135 cl_3_48 mt_55 rfl rfl (Nat.le_add_left _ _) rfl rfl rfl rfl hcs
theorem e54_138 : Rn X d 54 138 LS (.int x :: ST) M h = q_eq X x (zN 0) d 54 161 141 LS ST M h := s_ifeq mt_54 dX3_readCommand_138 rfl
theorem e54_141 : Rn X d 54 141 (some (.ref a) :: t) ST M h = Rn X d 54 142 (some (.ref a) :: t) (.ref a :: ST) M h := r_aload_n mt_54 dX3_readCommand_141 rfl
theorem e54_142 (hcs : Nat.ble (j_cs ST) 8 = true) : Rn X (d + 1) 54 142 LS (.ref a :: ST) M h = j_rc (M a) 3 (q_k X (Rn X d 59 0 [some (.ref a), none, none] [] M (j_h0 h)) h (d + 1) 54 145 LS ST) := s_callV mt_54 dX3_readCommand_142 cl_3_55 mt_59 rfl rfl (Nat.le_add_left _ _) rfl rfl rfl rfl hcs
theorem e54_145 : Rn X d 54 145 LS (.int x :: ST) M h = q_eq X x (zN 0) d 54 161 148 LS ST M h := s_ifeq mt_54 dX3_readCommand_145 rfl
theorem e54_148 : Rn X d 54 148 (some (.ref a) :: t) ST M h = Rn X d 54 149 (some (.ref a) :: t) (.ref a :: ST) M h := r_aload_n mt_54 dX3_readCommand_148 rfl
theorem e54_149 : Rn X d 54 149 LS ST M h = Rn X d 54 151 LS (.int (zN 59) :: ST) M h := r_bipush mt_54 dX3_readCommand_149 c_bi59
theorem e54_151 (hcs : Nat.ble (j_cs ST) 8 = true) : Rn X (d + 1) 54 151 LS (.int x :: .ref a :: ST) M h = j_rc (M a) 3 (q_k X (Rn X d 55 0 [some (.ref a), some (.int x)] [] M (j_h0 h)) h (d + 1) 54 154 LS ST) := s_callV mt_54 dX3_readCommand_151 cl_3_48 mt_55 rfl rfl (Nat.le_add_left _ _) rfl rfl rfl rfl hcs
theorem e54_154 : Rn X d 54 154 LS (.int x :: ST) M h = q_eq X x (zN 0) d 54 161 157 LS ST M h := s_ifeq mt_54 dX3_readCommand_154 rfl
theorem e54_157 : Rn X d 54 157 LS ST M h = Rn X d 54 158 LS (.int (zN 1) :: ST) M h := r_iconst mt_54 dX3_readCommand_157 c_ic1
theorem e54_158 : Rn X d 54 158 LS ST M h = Rn X d 54 162 LS ST M h := r_goto mt_54 dX3_readCommand_158 rfl
theorem e54_161 : Rn X d 54 161 LS ST M h = Rn X d 54 162 LS (.int (zN 0) :: ST) M h := r_iconst mt_54 dX3_readCommand_161 c_ic0
theorem e54_162 {v : Nat} (h0 : v < 2) : Rn X d 54 162 LS ([.int (zN v)]) M h = some (.inl (some (.int (zN v))), M, h) := s_zret mt_54 dX3_readCommand_162 rfl h0
theorem e54_163 : Rn X d 54 163 (some (.ref a) :: t) ST M h = Rn X d 54 164 (some (.ref a) :: t) (.ref a :: ST) M h := r_aload_n mt_54 dX3_readCommand_163 rfl
theorem e54_164 : Rn X d 54 164 (some (.ref a) :: t) ST M h = Rn X d 54 165 (some (.ref a) :: t) (.ref a :: ST) M h := r_aload_n mt_54 dX3_readCommand_164 rfl
theorem e54_165 : Rn X d 54 165 LS (.ref a :: ST) M h = q_g X (M a) 3 3 d 54 168 LS ST M h := s_get mt_54 dX3_readCommand_165 f_3_22
theorem e54_168 (hcs : Nat.ble (j_cs ST) 8 = true) : Rn X (d + 1) 54 168 LS (.int x :: .ref a :: ST) M h = j_rc (M a) 3 (q_k X (Rn X d 55 0 [some (.ref a), some (.int x)] [] M (j_h0 h)) h (d + 1) 54 171 LS ST) := s_callV mt_54 dX3_readCommand_168 cl_3_48 mt_55 rfl rfl (Nat.le_add_left _ _) rfl rfl rfl rfl hcs
theorem e54_171 : Rn X d 54 171 LS (.int x :: ST) M h = q_eq X x (zN 0) d 54 221 174 LS ST M h := s_ifeq mt_54 dX3_readCommand_171 rfl
theorem e54_174 : Rn X d 54 174 (some (.ref a) :: t) ST M h = Rn X d 54 175 (some (.ref a) :: t) (.ref a :: ST) M h := r_aload_n mt_54 dX3_readCommand_174 rfl
theorem e54_175 : Rn X d 54 175 LS ST M h = Rn X d 54 177 LS (.int (zN 8) :: ST) M h := r_bipush mt_54 dX3_readCommand_175 c_bi8
theorem e54_177 (hcs : Nat.ble (j_cs ST) 8 = true) : Rn X (d + 1) 54 177 LS (.int x :: .ref a :: ST) M h = j_rc (M a) 3 (q_k X (Rn X d 56 0 [some (.ref a), some (.int x)] [] M (j_h0 h)) h (d + 1) 54 180 LS ST) := s_callV mt_54 dX3_readCommand_177 cl_3_52 mt_56 rfl rfl (Nat.le_add_left _ _) rfl rfl rfl rfl hcs
theorem e54_180 : Rn X d 54 180 LS (.int x :: ST) M h = q_eq X x (zN 0) d 54 221 183 LS ST M h := s_ifeq mt_54 dX3_readCommand_180 rfl
theorem e54_183 : Rn X d 54 183 (some (.ref a) :: t) ST M h = Rn X d 54 184 (some (.ref a) :: t) (.ref a :: ST) M h := r_aload_n mt_54 dX3_readCommand_183 rfl
theorem e54_184 : Rn X d 54 184 LS ST M h = Rn X d 54 186 LS (.int (zN 8) :: ST) M h := r_bipush mt_54 dX3_readCommand_184 c_bi8
theorem e54_186 (hcs : Nat.ble (j_cs ST) 8 = true) : Rn X (d + 1) 54 186 LS (.int x :: .ref a :: ST) M h = j_rc (M a) 3 (q_k X (Rn X d 57 0 [some (.ref a), some (.int x)] [] M (j_h0 h)) h (d + 1) 54 189 LS ST) := s_callV mt_54 dX3_readCommand_186 cl_3_58 mt_57 rfl rfl (Nat.le_add_left _ _) rfl rfl rfl rfl hcs
theorem e54_189 : Rn X d 54 189 LS (.int x :: ST) M h = q_eq X x (zN 0) d 54 221 192 LS ST M h := s_ifeq mt_54 dX3_readCommand_189 rfl
theorem e54_192 : Rn X d 54 192 (some (.ref a) :: t) ST M h = Rn X d 54 193 (some (.ref a) :: t) (.ref a :: ST) M h := r_aload_n mt_54 dX3_readCommand_192 rfl
theorem e54_193 : Rn X d 54 193 LS ST M h = Rn X d 54 195 LS (.int (zN 44) :: ST) M h := r_bipush mt_54 dX3_readCommand_193 c_bi44
theorem e54_195 (hcs : Nat.ble (j_cs ST) 8 = true) : Rn X (d + 1) 54 195 LS (.int x :: .ref a :: ST) M h = j_rc (M a) 3 (q_k X (Rn X d 55 0 [some (.ref a), some (.int x)] [] M (j_h0 h)) h (d + 1) 54 198 LS ST) := s_callV mt_54 dX3_readCommand_195 cl_3_48 mt_55 rfl rfl (Nat.le_add_left _ _) rfl rfl rfl rfl hcs
theorem e54_198 : Rn X d 54 198 LS (.int x :: ST) M h = q_eq X x (zN 0) d 54 221 201 LS ST M h := s_ifeq mt_54 dX3_readCommand_198 rfl
theorem e54_201 : Rn X d 54 201 (some (.ref a) :: t) ST M h = Rn X d 54 202 (some (.ref a) :: t) (.ref a :: ST) M h := r_aload_n mt_54 dX3_readCommand_201 rfl
theorem e54_202 (hcs : Nat.ble (j_cs ST) 8 = true) : Rn X (d + 1) 54 202 LS (.ref a :: ST) M h = j_rc (M a) 3 (q_k X (Rn X d 59 0 [some (.ref a), none, none] [] M (j_h0 h)) h (d + 1) 54 205 LS ST) := s_callV mt_54 dX3_readCommand_202 cl_3_55 mt_59 rfl rfl (Nat.le_add_left _ _) rfl rfl rfl rfl hcs
theorem e54_205 : Rn X d 54 205 LS (.int x :: ST) M h = q_eq X x (zN 0) d 54 221 208 LS ST M h := s_ifeq mt_54 dX3_readCommand_205 rfl
theorem e54_208 : Rn X d 54 208 (some (.ref a) :: t) ST M h = Rn X d 54 209 (some (.ref a) :: t) (.ref a :: ST) M h := r_aload_n mt_54 dX3_readCommand_208 rfl
theorem e54_209 : Rn X d 54 209 LS ST M h = Rn X d 54 211 LS (.int (zN 59) :: ST) M h := r_bipush mt_54 dX3_readCommand_209 c_bi59
theorem e54_211 (hcs : Nat.ble (j_cs ST) 8 = true) : Rn X (d + 1) 54 211 LS (.int x :: .ref a :: ST) M h = j_rc (M a) 3 (q_k X (Rn X d 55 0 [some (.ref a), some (.int x)] [] M (j_h0 h)) h (d + 1) 54 214 LS ST) := s_callV mt_54 dX3_readCommand_211 cl_3_48 mt_55 rfl rfl (Nat.le_add_left _ _) rfl rfl rfl rfl hcs
theorem e54_214 : Rn X d 54 214 LS (.int x :: ST) M h = q_eq X x (zN 0) d 54 221 217 LS ST M h := s_ifeq mt_54 dX3_readCommand_214 rfl
theorem e54_217 : Rn X d 54 217 LS ST M h = Rn X d 54 218 LS (.int (zN 1) :: ST) M h := r_iconst mt_54 dX3_readCommand_217 c_ic1
theorem e54_218 : Rn X d 54 218 LS ST M h = Rn X d 54 222 LS ST M h := r_goto mt_54 dX3_readCommand_218 rfl
theorem e54_221 : Rn X d 54 221 LS ST M h = Rn X d 54 222 LS (.int (zN 0) :: ST) M h := r_iconst mt_54 dX3_readCommand_221 c_ic0
theorem e54_222 {v : Nat} (h0 : v < 2) : Rn X d 54 222 LS ([.int (zN v)]) M h = some (.inl (some (.int (zN v))), M, h) := s_zret mt_54 dX3_readCommand_222 rfl h0
theorem e54_223 : Rn X d 54 223 (some (.ref a) :: t) ST M h = Rn X d 54 224 (some (.ref a) :: t) (.ref a :: ST) M h := r_aload_n mt_54 dX3_readCommand_223 rfl
theorem e54_224 : Rn X d 54 224 (some (.ref a) :: t) ST M h = Rn X d 54 225 (some (.ref a) :: t) (.ref a :: ST) M h := r_aload_n mt_54 dX3_readCommand_224 rfl
theorem e54_225 : Rn X d 54 225 LS (.ref a :: ST) M h = q_g X (M a) 3 3 d 54 228 LS ST M h := s_get mt_54 dX3_readCommand_225 f_3_22
theorem e54_228 (hcs : Nat.ble (j_cs ST) 8 = true) : Rn X (d + 1) 54 228 LS (.int x :: .ref a :: ST) M h = j_rc (M a) 3 (q_k X (Rn X d 55 0 [some (.ref a), some (.int x)] [] M (j_h0 h)) h (d + 1) 54 231 LS ST) := s_callV mt_54 dX3_readCommand_228 cl_3_48 mt_55 rfl rfl (Nat.le_add_left _ _) rfl rfl rfl rfl hcs
theorem e54_231 : Rn X d 54 231 LS (.int x :: ST) M h = q_eq X x (zN 0) d 54 262 234 LS ST M h := s_ifeq mt_54 dX3_readCommand_231 rfl
theorem e54_234 : Rn X d 54 234 (some (.ref a) :: t) ST M h = Rn X d 54 235 (some (.ref a) :: t) (.ref a :: ST) M h := r_aload_n mt_54 dX3_readCommand_234 rfl
theorem e54_235 : Rn X d 54 235 LS ST M h = Rn X d 54 236 LS (.int (zN 2) :: ST) M h := r_iconst mt_54 dX3_readCommand_235 c_ic2
theorem e54_236 (hcs : Nat.ble (j_cs ST) 8 = true) : Rn X (d + 1) 54 236 LS (.int x :: .ref a :: ST) M h = j_rc (M a) 3 (q_k X (Rn X d 56 0 [some (.ref a), some (.int x)] [] M (j_h0 h)) h (d + 1) 54 239 LS ST) := s_callV mt_54 dX3_readCommand_236 cl_3_52 mt_56 rfl rfl (Nat.le_add_left _ _) rfl rfl rfl rfl hcs
theorem e54_239 : Rn X d 54 239 LS (.int x :: ST) M h = q_eq X x (zN 0) d 54 262 242 LS ST M h := s_ifeq mt_54 dX3_readCommand_239 rfl
theorem e54_242 : Rn X d 54 242 (some (.ref a) :: t) ST M h = Rn X d 54 243 (some (.ref a) :: t) (.ref a :: ST) M h := r_aload_n mt_54 dX3_readCommand_242 rfl
theorem e54_243 (hcs : Nat.ble (j_cs ST) 8 = true) : Rn X (d + 1) 54 243 LS (.ref a :: ST) M h = j_rc (M a) 3 (q_k X (Rn X d 59 0 [some (.ref a), none, none] [] M (j_h0 h)) h (d + 1) 54 246 LS ST) := s_callV mt_54 dX3_readCommand_243 cl_3_55 mt_59 rfl rfl (Nat.le_add_left _ _) rfl rfl rfl rfl hcs
theorem e54_246 : Rn X d 54 246 LS (.int x :: ST) M h = q_eq X x (zN 0) d 54 262 249 LS ST M h := s_ifeq mt_54 dX3_readCommand_246 rfl
theorem e54_249 : Rn X d 54 249 (some (.ref a) :: t) ST M h = Rn X d 54 250 (some (.ref a) :: t) (.ref a :: ST) M h := r_aload_n mt_54 dX3_readCommand_249 rfl
theorem e54_250 : Rn X d 54 250 LS ST M h = Rn X d 54 252 LS (.int (zN 59) :: ST) M h := r_bipush mt_54 dX3_readCommand_250 c_bi59
theorem e54_252 (hcs : Nat.ble (j_cs ST) 8 = true) : Rn X (d + 1) 54 252 LS (.int x :: .ref a :: ST) M h = j_rc (M a) 3 (q_k X (Rn X d 55 0 [some (.ref a), some (.int x)] [] M (j_h0 h)) h (d + 1) 54 255 LS ST) := s_callV mt_54 dX3_readCommand_252 cl_3_48 mt_55 rfl rfl (Nat.le_add_left _ _) rfl rfl rfl rfl hcs
theorem e54_255 : Rn X d 54 255 LS (.int x :: ST) M h = q_eq X x (zN 0) d 54 262 258 LS ST M h := s_ifeq mt_54 dX3_readCommand_255 rfl
theorem e54_258 : Rn X d 54 258 LS ST M h = Rn X d 54 259 LS (.int (zN 1) :: ST) M h := r_iconst mt_54 dX3_readCommand_258 c_ic1
theorem e54_259 : Rn X d 54 259 LS ST M h = Rn X d 54 263 LS ST M h := r_goto mt_54 dX3_readCommand_259 rfl
theorem e54_262 : Rn X d 54 262 LS ST M h = Rn X d 54 263 LS (.int (zN 0) :: ST) M h := r_iconst mt_54 dX3_readCommand_262 c_ic0
theorem e54_263 {v : Nat} (h0 : v < 2) : Rn X d 54 263 LS ([.int (zN v)]) M h = some (.inl (some (.int (zN v))), M, h) := s_zret mt_54 dX3_readCommand_263 rfl h0
theorem e54_264 : Rn X d 54 264 (some (.ref a) :: t) ST M h = Rn X d 54 265 (some (.ref a) :: t) (.ref a :: ST) M h := r_aload_n mt_54 dX3_readCommand_264 rfl
theorem e54_265 : Rn X d 54 265 (some (.ref a) :: t) ST M h = Rn X d 54 266 (some (.ref a) :: t) (.ref a :: ST) M h := r_aload_n mt_54 dX3_readCommand_265 rfl
theorem e54_266 : Rn X d 54 266 LS (.ref a :: ST) M h = q_g X (M a) 3 3 d 54 269 LS ST M h := s_get mt_54 dX3_readCommand_266 f_3_22
theorem e54_269 (hcs : Nat.ble (j_cs ST) 8 = true) : Rn X (d + 1) 54 269 LS (.int x :: .ref a :: ST) M h = j_rc (M a) 3 (q_k X (Rn X d 55 0 [some (.ref a), some (.int x)] [] M (j_h0 h)) h (d + 1) 54 272 LS ST) := s_callV mt_54 dX3_readCommand_269 cl_3_48 mt_55 rfl rfl (Nat.le_add_left _ _) rfl rfl rfl rfl hcs
theorem e54_272 : Rn X d 54 272 LS (.int x :: ST) M h = q_eq X x (zN 0) d 54 296 275 LS ST M h := s_ifeq mt_54 dX3_readCommand_272 rfl
theorem e54_275 : Rn X d 54 275 (some (.ref a) :: t) ST M h = Rn X d 54 276 (some (.ref a) :: t) (.ref a :: ST) M h := r_aload_n mt_54 dX3_readCommand_275 rfl
theorem e54_276 : Rn X d 54 276 LS ST M h = Rn X d 54 277 LS (.int (zN 2) :: ST) M h := r_iconst mt_54 dX3_readCommand_276 c_ic2
theorem e54_277 (hcs : Nat.ble (j_cs ST) 8 = true) : Rn X (d + 1) 54 277 LS (.int x :: .ref a :: ST) M h = j_rc (M a) 3 (q_k X (Rn X d 56 0 [some (.ref a), some (.int x)] [] M (j_h0 h)) h (d + 1) 54 280 LS ST) := s_callV mt_54 dX3_readCommand_277 cl_3_52 mt_56 rfl rfl (Nat.le_add_left _ _) rfl rfl rfl rfl hcs
theorem e54_280 : Rn X d 54 280 LS (.int x :: ST) M h = q_eq X x (zN 0) d 54 296 283 LS ST M h := s_ifeq mt_54 dX3_readCommand_280 rfl
theorem e54_283 : Rn X d 54 283 (some (.ref a) :: t) ST M h = Rn X d 54 284 (some (.ref a) :: t) (.ref a :: ST) M h := r_aload_n mt_54 dX3_readCommand_283 rfl
theorem e54_284 : Rn X d 54 284 LS ST M h = Rn X d 54 286 LS (.int (zN 59) :: ST) M h := r_bipush mt_54 dX3_readCommand_284 c_bi59
theorem e54_286 (hcs : Nat.ble (j_cs ST) 8 = true) : Rn X (d + 1) 54 286 LS (.int x :: .ref a :: ST) M h = j_rc (M a) 3 (q_k X (Rn X d 55 0 [some (.ref a), some (.int x)] [] M (j_h0 h)) h (d + 1) 54 289 LS ST) := s_callV mt_54 dX3_readCommand_286 cl_3_48 mt_55 rfl rfl (Nat.le_add_left _ _) rfl rfl rfl rfl hcs
theorem e54_289 : Rn X d 54 289 LS (.int x :: ST) M h = q_eq X x (zN 0) d 54 296 292 LS ST M h := s_ifeq mt_54 dX3_readCommand_289 rfl
theorem e54_292 : Rn X d 54 292 LS ST M h = Rn X d 54 293 LS (.int (zN 1) :: ST) M h := r_iconst mt_54 dX3_readCommand_292 c_ic1
theorem e54_293 : Rn X d 54 293 LS ST M h = Rn X d 54 297 LS ST M h := r_goto mt_54 dX3_readCommand_293 rfl
theorem e54_296 : Rn X d 54 296 LS ST M h = Rn X d 54 297 LS (.int (zN 0) :: ST) M h := r_iconst mt_54 dX3_readCommand_296 c_ic0
theorem e54_297 {v : Nat} (h0 : v < 2) : Rn X d 54 297 LS ([.int (zN v)]) M h = some (.inl (some (.int (zN v))), M, h) := s_zret mt_54 dX3_readCommand_297 rfl h0
theorem e54_298 : Rn X d 54 298 LS ST M h = Rn X d 54 299 LS (.int (zN 0) :: ST) M h := r_iconst mt_54 dX3_readCommand_298 c_ic0
theorem e54_299 {v : Nat} (h0 : v < 2) : Rn X d 54 299 LS ([.int (zN v)]) M h = some (.inl (some (.int (zN v))), M, h) := s_zret mt_54 dX3_readCommand_299 rfl h0
theorem e55_0 : Rn X d 55 0 (some (.ref a) :: t) ST M h = Rn X d 55 1 (some (.ref a) :: t) (.ref a :: ST) M h := r_aload_n mt_55 dX3_readSign_0 rfl
theorem e55_1 : Rn X d 55 1 (some (.ref a) :: t) ST M h = Rn X d 55 2 (some (.ref a) :: t) (.ref a :: ST) M h := r_aload_n mt_55 dX3_readSign_1 rfl
theorem e55_2 : Rn X d 55 2 LS (.ref a :: ST) M h = q_g X (M a) 3 2 d 55 5 LS ST M h := s_get mt_55 dX3_readSign_2 f_3_19
theorem e55_5 (hcs : Nat.ble (j_cs ST) 8 = true) : Rn X (d + 1) 55 5 LS (.int x :: .ref a :: ST) M h = j_rc (M a) 3 (q_k X (Rn X d 50 0 [some (.ref a), some (.int x)] [] M (j_h0 h)) h (d + 1) 55 8 LS ST) := s_callV mt_55 dX3_readSign_5 cl_3_44 mt_50 rfl rfl (Nat.le_add_left _ _) rfl rfl rfl rfl hcs
theorem e55_8 : Rn X d 55 8 (l0 :: some (.int x) :: t) ST M h = Rn X d 55 9 (l0 :: some (.int x) :: t) (.int x :: ST) M h := r_iload_n mt_55 dX3_readSign_8 rfl
theorem e55_9 : Rn X d 55 9 LS (.int y :: .int x :: ST) M h = q_eq X x y d 55 14 12 LS ST M h := s_iceq mt_55 dX3_readSign_9 rfl
theorem e55_12 : Rn X d 55 12 LS ST M h = Rn X d 55 13 LS (.int (zN 0) :: ST) M h := r_iconst mt_55 dX3_readSign_12 c_ic0
theorem e55_13 {v : Nat} (h0 : v < 2) : Rn X d 55 13 LS ([.int (zN v)]) M h = some (.inl (some (.int (zN v))), M, h) := s_zret mt_55 dX3_readSign_13 rfl h0
theorem e55_14 : Rn X d 55 14 (some (.ref a) :: t) ST M h = Rn X d 55 15 (some (.ref a) :: t) (.ref a :: ST) M h := r_aload_n mt_55 dX3_readSign_14 rfl
theorem e55_15 : Rn X d 55 15 LS (.int x :: ST) M h = Rn X d 55 16 LS (.int x :: .int x :: ST) M h := r_dup mt_55 dX3_readSign_15 rfl
theorem e55_15r : Rn X d 55 15 LS (.ref a :: ST) M h = Rn X d 55 16 LS (.ref a :: .ref a :: ST) M h := r_dup mt_55 dX3_readSign_15 rfl
theorem e55_16 : Rn X d 55 16 LS (.ref a :: ST) M h = q_g X (M a) 3 2 d 55 19 LS ST M h := s_get mt_55 dX3_readSign_16 f_3_19
theorem e55_19 : Rn X d 55 19 LS ST M h = Rn X d 55 20 LS (.int (zN 1) :: ST) M h := r_iconst mt_55 dX3_readSign_19 c_ic1
theorem e55_20 : Rn X d 55 20 LS (.int y :: .int x :: ST) M h = Rn X d 55 21 LS (.int (x + y) :: ST) M h := r_iadd mt_55 dX3_readSign_20
theorem e55_21 : Rn X d 55 21 LS (.int x :: .ref a :: ST) M h = q_p X (M a) a 3 2 (.int x) d 55 24 LS ST M h := s_putN mt_55 dX3_readSign_21 f_3_19 rfl rfl rfl
theorem e55_24 : Rn X d 55 24 LS ST M h = Rn X d 55 25 LS (.int (zN 1) :: ST) M h := r_iconst mt_55 dX3_readSign_24 c_ic1
theorem e55_25 {v : Nat} (h0 : v < 2) : Rn X d 55 25 LS ([.int (zN v)]) M h = some (.inl (some (.int (zN v))), M, h) := s_zret mt_55 dX3_readSign_25 rfl h0
theorem e56_0 : Rn X d 56 0 (some (.ref a) :: t) ST M h = Rn X d 56 1 (some (.ref a) :: t) (.ref a :: ST) M h := r_aload_n mt_56 dX3_readFirst_0 rfl
theorem e56_1 : Rn X d 56 1 (some (.ref a) :: t) ST M h = Rn X d 56 2 (some (.ref a) :: t) (.ref a :: ST) M h := r_aload_n mt_56 dX3_readFirst_1 rfl
theorem e56_2 : Rn X d 56 2 (l0 :: some (.int x) :: t) ST M h = Rn X d 56 3 (l0 :: some (.int x) :: t) (.int x :: ST) M h := r_iload_n mt_56 dX3_readFirst_2 rfl
theorem e56_3 (hcs : Nat.ble (j_cs ST) 8 = true) : Rn X (d + 1) 56 3 LS (.int x :: .ref a :: ST) M h = j_rc (M a) 3 (q_k X (Rn X d 58 0 [some (.ref a), some (.int x), none] [] M (j_h0 h)) h (d + 1) 56 6 LS ST) := s_callV mt_56 dX3_readFirst_3 cl_3_61 mt_58 rfl rfl (Nat.le_add_left _ _) rfl rfl rfl rfl hcs
theorem e56_6 : Rn X d 56 6 LS (.int x :: .ref a :: ST) M h = q_p X (M a) a 3 4 (.int x) d 56 9 LS ST M h := s_putN mt_56 dX3_readFirst_6 f_3_25 rfl rfl rfl
theorem e56_9 : Rn X d 56 9 (some (.ref a) :: t) ST M h = Rn X d 56 10 (some (.ref a) :: t) (.ref a :: ST) M h := r_aload_n mt_56 dX3_readFirst_9 rfl
theorem e56_10 : Rn X d 56 10 LS ST M h = Rn X d 56 11 LS (.int (zN 0) :: ST) M h := r_iconst mt_56 dX3_readFirst_10 c_ic0
theorem e56_11 : Rn X d 56 11 LS (.int x :: .ref a :: ST) M h = q_p X (M a) a 3 5 (.int x) d 56 14 LS ST M h := s_putN mt_56 dX3_readFirst_11 f_3_28 rfl rfl rfl
theorem e56_14 : Rn X d 56 14 (some (.ref a) :: t) ST M h = Rn X d 56 15 (some (.ref a) :: t) (.ref a :: ST) M h := r_aload_n mt_56 dX3_readFirst_14 rfl
theorem e56_15 : Rn X d 56 15 LS (.ref a :: ST) M h = q_g X (M a) 3 4 d 56 18 LS ST M h := s_get mt_56 dX3_readFirst_15 f_3_25
theorem e56_18 : Rn X d 56 18 LS ST M h = Rn X d 56 19 LS (.int (zM 0) :: ST) M h := r_iconst mt_56 dX3_readFirst_18 c_icm1
theorem e56_19 : Rn X d 56 19 LS (.int y :: .int x :: ST) M h = q_eq X x y d 56 26 22 LS ST M h := s_iceq mt_56 dX3_readFirst_19 rfl
theorem e56_22 : Rn X d 56 22 LS ST M h = Rn X d 56 23 LS (.int (zN 1) :: ST) M h := r_iconst mt_56 dX3_readFirst_22 c_ic1
theorem e56_23 : Rn X d 56 23 LS ST M h = Rn X d 56 27 LS ST M h := r_goto mt_56 dX3_readFirst_23 rfl
theorem e56_26 : Rn X d 56 26 LS ST M h = Rn X d 56 27 LS (.int (zN 0) :: ST) M h := r_iconst mt_56 dX3_readFirst_26 c_ic0
theorem e56_27 {v : Nat} (h0 : v < 2) : Rn X d 56 27 LS ([.int (zN v)]) M h = some (.inl (some (.int (zN v))), M, h) := s_zret mt_56 dX3_readFirst_27 rfl h0
theorem e57_0 : Rn X d 57 0 (some (.ref a) :: t) ST M h = Rn X d 57 1 (some (.ref a) :: t) (.ref a :: ST) M h := r_aload_n mt_57 dX3_readSecond_0 rfl
theorem e57_1 : Rn X d 57 1 (some (.ref a) :: t) ST M h = Rn X d 57 2 (some (.ref a) :: t) (.ref a :: ST) M h := r_aload_n mt_57 dX3_readSecond_1 rfl
theorem e57_2 : Rn X d 57 2 (l0 :: some (.int x) :: t) ST M h = Rn X d 57 3 (l0 :: some (.int x) :: t) (.int x :: ST) M h := r_iload_n mt_57 dX3_readSecond_2 rfl
theorem e57_3 (hcs : Nat.ble (j_cs ST) 8 = true) : Rn X (d + 1) 57 3 LS (.int x :: .ref a :: ST) M h = j_rc (M a) 3 (q_k X (Rn X d 58 0 [some (.ref a), some (.int x), none] [] M (j_h0 h)) h (d + 1) 57 6 LS ST) := s_callV mt_57 dX3_readSecond_3 cl_3_61 mt_58 rfl rfl (Nat.le_add_left _ _) rfl rfl rfl rfl hcs
theorem e57_6 : Rn X d 57 6 LS (.int x :: .ref a :: ST) M h = q_p X (M a) a 3 5 (.int x) d 57 9 LS ST M h := s_putN mt_57 dX3_readSecond_6 f_3_28 rfl rfl rfl
theorem e57_9 : Rn X d 57 9 (some (.ref a) :: t) ST M h = Rn X d 57 10 (some (.ref a) :: t) (.ref a :: ST) M h := r_aload_n mt_57 dX3_readSecond_9 rfl
theorem e57_10 : Rn X d 57 10 LS (.ref a :: ST) M h = q_g X (M a) 3 5 d 57 13 LS ST M h := s_get mt_57 dX3_readSecond_10 f_3_28
theorem e57_13 : Rn X d 57 13 LS ST M h = Rn X d 57 14 LS (.int (zM 0) :: ST) M h := r_iconst mt_57 dX3_readSecond_13 c_icm1
theorem e57_14 : Rn X d 57 14 LS (.int y :: .int x :: ST) M h = q_eq X x y d 57 21 17 LS ST M h := s_iceq mt_57 dX3_readSecond_14 rfl
theorem e57_17 : Rn X d 57 17 LS ST M h = Rn X d 57 18 LS (.int (zN 1) :: ST) M h := r_iconst mt_57 dX3_readSecond_17 c_ic1
theorem e57_18 : Rn X d 57 18 LS ST M h = Rn X d 57 22 LS ST M h := r_goto mt_57 dX3_readSecond_18 rfl
theorem e57_21 : Rn X d 57 21 LS ST M h = Rn X d 57 22 LS (.int (zN 0) :: ST) M h := r_iconst mt_57 dX3_readSecond_21 c_ic0
theorem e57_22 {v : Nat} (h0 : v < 2) : Rn X d 57 22 LS ([.int (zN v)]) M h = some (.inl (some (.int (zN v))), M, h) := s_zret mt_57 dX3_readSecond_22 rfl h0
theorem e58_0 : Rn X d 58 0 (some (.ref a) :: t) ST M h = Rn X d 58 1 (some (.ref a) :: t) (.ref a :: ST) M h := r_aload_n mt_58 dX3_readDigit_0 rfl
theorem e58_1 : Rn X d 58 1 (some (.ref a) :: t) ST M h = Rn X d 58 2 (some (.ref a) :: t) (.ref a :: ST) M h := r_aload_n mt_58 dX3_readDigit_1 rfl
theorem e58_2 : Rn X d 58 2 LS (.ref a :: ST) M h = q_g X (M a) 3 2 d 58 5 LS ST M h := s_get mt_58 dX3_readDigit_2 f_3_19
theorem e58_5 (hcs : Nat.ble (j_cs ST) 8 = true) : Rn X (d + 1) 58 5 LS (.int x :: .ref a :: ST) M h = j_rc (M a) 3 (q_k X (Rn X d 50 0 [some (.ref a), some (.int x)] [] M (j_h0 h)) h (d + 1) 58 8 LS ST) := s_callV mt_58 dX3_readDigit_5 cl_3_44 mt_50 rfl rfl (Nat.le_add_left _ _) rfl rfl rfl rfl hcs
theorem e58_8 : Rn X d 58 8 LS ST M h = Rn X d 58 10 LS (.int (zN 48) :: ST) M h := r_bipush mt_58 dX3_readDigit_8 c_bi48
theorem e58_10 : Rn X d 58 10 LS (.int y :: .int x :: ST) M h = Rn X d 58 11 LS (.int (x - y) :: ST) M h := r_isub mt_58 dX3_readDigit_10
theorem e58_11 (ho : j_one l1 = true) : Rn X d 58 11 (l0 :: l1 :: l2 :: t) (.int x :: ST) M h = Rn X d 58 12 (l0 :: l1 :: some (.int x) :: t) ST M h := r_istore_n mt_58 dX3_readDigit_11 (by show 2 < _; simp only [List.length_cons]; omega) ho rfl
theorem e58_12 : Rn X d 58 12 (l0 :: l1 :: some (.int x) :: t) ST M h = Rn X d 58 13 (l0 :: l1 :: some (.int x) :: t) (.int x :: ST) M h := r_iload_n mt_58 dX3_readDigit_12 rfl
theorem e58_13 : Rn X d 58 13 LS (.int x :: ST) M h = q_lt X x (zN 0) d 58 21 16 LS ST M h := s_iflt mt_58 dX3_readDigit_13 rfl
theorem e58_16 : Rn X d 58 16 (l0 :: l1 :: some (.int x) :: t) ST M h = Rn X d 58 17 (l0 :: l1 :: some (.int x) :: t) (.int x :: ST) M h := r_iload_n mt_58 dX3_readDigit_16 rfl
theorem e58_17 : Rn X d 58 17 (l0 :: some (.int x) :: t) ST M h = Rn X d 58 18 (l0 :: some (.int x) :: t) (.int x :: ST) M h := r_iload_n mt_58 dX3_readDigit_17 rfl
theorem e58_18 : Rn X d 58 18 LS (.int y :: .int x :: ST) M h = q_lt X x y d 58 23 21 LS ST M h := s_iclt mt_58 dX3_readDigit_18 rfl
theorem e58_21 : Rn X d 58 21 LS ST M h = Rn X d 58 22 LS (.int (zM 0) :: ST) M h := r_iconst mt_58 dX3_readDigit_21 c_icm1
theorem e58_22 : Rn X d 58 22 LS ([.int x]) M h = some (.inl (some (.int x)), M, h) := r_iret mt_58 dX3_readDigit_22 rfl
theorem e58_23 : Rn X d 58 23 (some (.ref a) :: t) ST M h = Rn X d 58 24 (some (.ref a) :: t) (.ref a :: ST) M h := r_aload_n mt_58 dX3_readDigit_23 rfl
theorem e58_24 : Rn X d 58 24 LS (.int x :: ST) M h = Rn X d 58 25 LS (.int x :: .int x :: ST) M h := r_dup mt_58 dX3_readDigit_24 rfl
theorem e58_24r : Rn X d 58 24 LS (.ref a :: ST) M h = Rn X d 58 25 LS (.ref a :: .ref a :: ST) M h := r_dup mt_58 dX3_readDigit_24 rfl
theorem e58_25 : Rn X d 58 25 LS (.ref a :: ST) M h = q_g X (M a) 3 2 d 58 28 LS ST M h := s_get mt_58 dX3_readDigit_25 f_3_19
theorem e58_28 : Rn X d 58 28 LS ST M h = Rn X d 58 29 LS (.int (zN 1) :: ST) M h := r_iconst mt_58 dX3_readDigit_28 c_ic1
theorem e58_29 : Rn X d 58 29 LS (.int y :: .int x :: ST) M h = Rn X d 58 30 LS (.int (x + y) :: ST) M h := r_iadd mt_58 dX3_readDigit_29
theorem e58_30 : Rn X d 58 30 LS (.int x :: .ref a :: ST) M h = q_p X (M a) a 3 2 (.int x) d 58 33 LS ST M h := s_putN mt_58 dX3_readDigit_30 f_3_19 rfl rfl rfl
theorem e58_33 : Rn X d 58 33 (l0 :: l1 :: some (.int x) :: t) ST M h = Rn X d 58 34 (l0 :: l1 :: some (.int x) :: t) (.int x :: ST) M h := r_iload_n mt_58 dX3_readDigit_33 rfl
theorem e58_34 : Rn X d 58 34 LS ([.int x]) M h = some (.inl (some (.int x)), M, h) := r_iret mt_58 dX3_readDigit_34 rfl
theorem e59_0 : Rn X d 59 0 (some (.ref a) :: t) ST M h = Rn X d 59 1 (some (.ref a) :: t) (.ref a :: ST) M h := r_aload_n mt_59 dX3_readNumber_0 rfl
theorem e59_1 : Rn X d 59 1 LS (.ref a :: ST) M h = q_g X (M a) 3 2 d 59 4 LS ST M h := s_get mt_59 dX3_readNumber_1 f_3_19
theorem e59_4 (ho : j_one l0 = true) : Rn X d 59 4 (l0 :: l1 :: t) (.int x :: ST) M h = Rn X d 59 5 (l0 :: some (.int x) :: t) ST M h := r_istore_n mt_59 dX3_readNumber_4 (by show 1 < _; simp only [List.length_cons]; omega) ho rfl
theorem e59_5 : Rn X d 59 5 (some (.ref a) :: t) ST M h = Rn X d 59 6 (some (.ref a) :: t) (.ref a :: ST) M h := r_aload_n mt_59 dX3_readNumber_5 rfl
theorem e59_6 : Rn X d 59 6 LS ST M h = Rn X d 59 7 LS (.int (zN 0) :: ST) M h := r_iconst mt_59 dX3_readNumber_6 c_ic0
theorem e59_7 : Rn X d 59 7 LS (.int x :: .ref a :: ST) M h = q_p X (M a) a 3 6 (.int x) d 59 10 LS ST M h := s_putN mt_59 dX3_readNumber_7 f_3_31 rfl rfl rfl
theorem e59_10 : Rn X d 59 10 LS ST M h = Rn X d 59 11 LS (.int (zN 0) :: ST) M h := r_iconst mt_59 dX3_readNumber_10 c_ic0
theorem e59_11 (ho : j_one l1 = true) : Rn X d 59 11 (l0 :: l1 :: l2 :: t) (.int x :: ST) M h = Rn X d 59 12 (l0 :: l1 :: some (.int x) :: t) ST M h := r_istore_n mt_59 dX3_readNumber_11 (by show 2 < _; simp only [List.length_cons]; omega) ho rfl
theorem e59_12 : Rn X d 59 12 (l0 :: l1 :: some (.int x) :: t) ST M h = Rn X d 59 13 (l0 :: l1 :: some (.int x) :: t) (.int x :: ST) M h := r_iload_n mt_59 dX3_readNumber_12 rfl
theorem e59_13 : Rn X d 59 13 LS ST M h = Rn X d 59 14 LS (.int (zN 2) :: ST) M h := r_iconst mt_59 dX3_readNumber_13 c_ic2
theorem e59_14 : Rn X d 59 14 LS (.int y :: .int x :: ST) M h = q_le X y x d 59 70 17 LS ST M h := s_icge mt_59 dX3_readNumber_14 rfl
theorem e59_17 : Rn X d 59 17 (some (.ref a) :: t) ST M h = Rn X d 59 18 (some (.ref a) :: t) (.ref a :: ST) M h := r_aload_n mt_59 dX3_readNumber_17 rfl
theorem e59_18 : Rn X d 59 18 (some (.ref a) :: t) ST M h = Rn X d 59 19 (some (.ref a) :: t) (.ref a :: ST) M h := r_aload_n mt_59 dX3_readNumber_18 rfl
theorem e59_19 : Rn X d 59 19 LS (.ref a :: ST) M h = q_g X (M a) 3 2 d 59 22 LS ST M h := s_get mt_59 dX3_readNumber_19 f_3_19
theorem e59_22 (hcs : Nat.ble (j_cs ST) 8 = true) : Rn X (d + 1) 59 22 LS (.int x :: .ref a :: ST) M h = j_rc (M a) 3 (q_k X (Rn X d 50 0 [some (.ref a), some (.int x)] [] M (j_h0 h)) h (d + 1) 59 25 LS ST) := s_callV mt_59 dX3_readNumber_22 cl_3_44 mt_50 rfl rfl (Nat.le_add_left _ _) rfl rfl rfl rfl hcs
theorem e59_25 (hcs : Nat.ble (j_cs ST) 8 = true) : Rn X (d + 1) 59 25 LS (.int x :: ST) M h = q_k X (Rn X d 60 0 [some (.int x)] [] M (j_h0 h)) h (d + 1) 59 28 LS ST := s_callS (Or.inl rfl) mt_59 dX3_readNumber_25 cl_3_64 mt_60 rfl (Nat.le_add_left _ _) rfl rfl rfl rfl hcs
theorem e59_28 : Rn X d 59 28 LS (.int x :: ST) M h = q_eq X x (zN 0) d 59 70 31 LS ST M h := s_ifeq mt_59 dX3_readNumber_28 rfl
theorem e59_31 : Rn X d 59 31 (some (.ref a) :: t) ST M h = Rn X d 59 32 (some (.ref a) :: t) (.ref a :: ST) M h := r_aload_n mt_59 dX3_readNumber_31 rfl
theorem e59_32 : Rn X d 59 32 LS ST M h = Rn X d 59 34 LS (.int (zN 10) :: ST) M h := r_bipush mt_59 dX3_readNumber_32 c_bi10
theorem e59_34 : Rn X d 59 34 (some (.ref a) :: t) ST M h = Rn X d 59 35 (some (.ref a) :: t) (.ref a :: ST) M h := r_aload_n mt_59 dX3_readNumber_34 rfl
theorem e59_35 : Rn X d 59 35 LS (.ref a :: ST) M h = q_g X (M a) 3 6 d 59 38 LS ST M h := s_get mt_59 dX3_readNumber_35 f_3_31
theorem e59_38 : Rn X d 59 38 LS (.int y :: .int x :: ST) M h = Rn X d 59 39 LS (.int (x * y) :: ST) M h := r_imul mt_59 dX3_readNumber_38
theorem e59_39 : Rn X d 59 39 (some (.ref a) :: t) ST M h = Rn X d 59 40 (some (.ref a) :: t) (.ref a :: ST) M h := r_aload_n mt_59 dX3_readNumber_39 rfl
theorem e59_40 : Rn X d 59 40 (some (.ref a) :: t) ST M h = Rn X d 59 41 (some (.ref a) :: t) (.ref a :: ST) M h := r_aload_n mt_59 dX3_readNumber_40 rfl
theorem e59_41 : Rn X d 59 41 LS (.ref a :: ST) M h = q_g X (M a) 3 2 d 59 44 LS ST M h := s_get mt_59 dX3_readNumber_41 f_3_19
theorem e59_44 (hcs : Nat.ble (j_cs ST) 8 = true) : Rn X (d + 1) 59 44 LS (.int x :: .ref a :: ST) M h = j_rc (M a) 3 (q_k X (Rn X d 50 0 [some (.ref a), some (.int x)] [] M (j_h0 h)) h (d + 1) 59 47 LS ST) := s_callV mt_59 dX3_readNumber_44 cl_3_44 mt_50 rfl rfl (Nat.le_add_left _ _) rfl rfl rfl rfl hcs
theorem e59_47 : Rn X d 59 47 LS ST M h = Rn X d 59 49 LS (.int (zN 48) :: ST) M h := r_bipush mt_59 dX3_readNumber_47 c_bi48
theorem e59_49 : Rn X d 59 49 LS (.int y :: .int x :: ST) M h = Rn X d 59 50 LS (.int (x - y) :: ST) M h := r_isub mt_59 dX3_readNumber_49
theorem e59_50 : Rn X d 59 50 LS (.int y :: .int x :: ST) M h = Rn X d 59 51 LS (.int (x + y) :: ST) M h := r_iadd mt_59 dX3_readNumber_50
theorem e59_51 : Rn X d 59 51 LS (.int x :: .ref a :: ST) M h = q_p X (M a) a 3 6 (.int x) d 59 54 LS ST M h := s_putN mt_59 dX3_readNumber_51 f_3_31 rfl rfl rfl
theorem e59_54 : Rn X d 59 54 (some (.ref a) :: t) ST M h = Rn X d 59 55 (some (.ref a) :: t) (.ref a :: ST) M h := r_aload_n mt_59 dX3_readNumber_54 rfl
theorem e59_55 : Rn X d 59 55 LS (.int x :: ST) M h = Rn X d 59 56 LS (.int x :: .int x :: ST) M h := r_dup mt_59 dX3_readNumber_55 rfl
theorem e59_55r : Rn X d 59 55 LS (.ref a :: ST) M h = Rn X d 59 56 LS (.ref a :: .ref a :: ST) M h := r_dup mt_59 dX3_readNumber_55 rfl
theorem e59_56 : Rn X d 59 56 LS (.ref a :: ST) M h = q_g X (M a) 3 2 d 59 59 LS ST M h := s_get mt_59 dX3_readNumber_56 f_3_19
theorem e59_59 : Rn X d 59 59 LS ST M h = Rn X d 59 60 LS (.int (zN 1) :: ST) M h := r_iconst mt_59 dX3_readNumber_59 c_ic1
theorem e59_60 : Rn X d 59 60 LS (.int y :: .int x :: ST) M h = Rn X d 59 61 LS (.int (x + y) :: ST) M h := r_iadd mt_59 dX3_readNumber_60
theorem e59_61 : Rn X d 59 61 LS (.int x :: .ref a :: ST) M h = q_p X (M a) a 3 2 (.int x) d 59 64 LS ST M h := s_putN mt_59 dX3_readNumber_61 f_3_19 rfl rfl rfl
theorem e59_64 (ho : j_one l1 = true) : Rn X d 59 64 (l0 :: l1 :: some (.int x) :: t) ST M h = Rn X d 59 67 (l0 :: l1 :: some (.int (x + (zN 1))) :: t) ST M h := r_iinc mt_59 dX3_readNumber_64 rfl (by simp only [List.length_cons]; omega) ho c_ic1 rfl
theorem e59_67 : Rn X d 59 67 LS ST M h = Rn X d 59 12 LS ST M h := r_goto mt_59 dX3_readNumber_67 rfl
theorem e59_70 : Rn X d 59 70 (some (.ref a) :: t) ST M h = Rn X d 59 71 (some (.ref a) :: t) (.ref a :: ST) M h := r_aload_n mt_59 dX3_readNumber_70 rfl
theorem e59_71 : Rn X d 59 71 LS (.ref a :: ST) M h = q_g X (M a) 3 2 d 59 74 LS ST M h := s_get mt_59 dX3_readNumber_71 f_3_19
theorem e59_74 : Rn X d 59 74 (l0 :: some (.int x) :: t) ST M h = Rn X d 59 75 (l0 :: some (.int x) :: t) (.int x :: ST) M h := r_iload_n mt_59 dX3_readNumber_74 rfl
theorem e59_75 : Rn X d 59 75 LS (.int y :: .int x :: ST) M h = q_eq X x y d 59 92 78 LS ST M h := s_iceq mt_59 dX3_readNumber_75 rfl
theorem e59_78 : Rn X d 59 78 (some (.ref a) :: t) ST M h = Rn X d 59 79 (some (.ref a) :: t) (.ref a :: ST) M h := r_aload_n mt_59 dX3_readNumber_78 rfl
theorem e59_79 : Rn X d 59 79 (some (.ref a) :: t) ST M h = Rn X d 59 80 (some (.ref a) :: t) (.ref a :: ST) M h := r_aload_n mt_59 dX3_readNumber_79 rfl
theorem e59_80 : Rn X d 59 80 LS (.ref a :: ST) M h = q_g X (M a) 3 2 d 59 83 LS ST M h := s_get mt_59 dX3_readNumber_80 f_3_19
theorem e59_83 (hcs : Nat.ble (j_cs ST) 8 = true) : Rn X (d + 1) 59 83 LS (.int x :: .ref a :: ST) M h = j_rc (M a) 3 (q_k X (Rn X d 50 0 [some (.ref a), some (.int x)] [] M (j_h0 h)) h (d + 1) 59 86 LS ST) := s_callV mt_59 dX3_readNumber_83 cl_3_44 mt_50 rfl rfl (Nat.le_add_left _ _) rfl rfl rfl rfl hcs
theorem e59_86 (hcs : Nat.ble (j_cs ST) 8 = true) : Rn X (d + 1) 59 86 LS (.int x :: ST) M h = q_k X (Rn X d 60 0 [some (.int x)] [] M (j_h0 h)) h (d + 1) 59 89 LS ST := s_callS (Or.inl rfl) mt_59 dX3_readNumber_86 cl_3_64 mt_60 rfl (Nat.le_add_left _ _) rfl rfl rfl rfl hcs
theorem e59_89 : Rn X d 59 89 LS (.int x :: ST) M h = q_eq X x (zN 0) d 59 94 92 LS ST M h := s_ifeq mt_59 dX3_readNumber_89 rfl
theorem e59_92 : Rn X d 59 92 LS ST M h = Rn X d 59 93 LS (.int (zN 0) :: ST) M h := r_iconst mt_59 dX3_readNumber_92 c_ic0
theorem e59_93 {v : Nat} (h0 : v < 2) : Rn X d 59 93 LS ([.int (zN v)]) M h = some (.inl (some (.int (zN v))), M, h) := s_zret mt_59 dX3_readNumber_93 rfl h0
theorem e59_94 : Rn X d 59 94 (some (.ref a) :: t) ST M h = Rn X d 59 95 (some (.ref a) :: t) (.ref a :: ST) M h := r_aload_n mt_59 dX3_readNumber_94 rfl
theorem e59_95 : Rn X d 59 95 LS (.ref a :: ST) M h = q_g X (M a) 3 6 d 59 98 LS ST M h := s_get mt_59 dX3_readNumber_95 f_3_31
theorem e59_98 : Rn X d 59 98 LS ST M h = Rn X d 59 99 LS (.int (zN 1) :: ST) M h := r_iconst mt_59 dX3_readNumber_98 c_ic1
theorem e59_99 : Rn X d 59 99 LS (.int y :: .int x :: ST) M h = q_le X y x d 59 109 102 LS ST M h := s_icge mt_59 dX3_readNumber_99 rfl
theorem e59_102 : Rn X d 59 102 (some (.ref a) :: t) ST M h = Rn X d 59 103 (some (.ref a) :: t) (.ref a :: ST) M h := r_aload_n mt_59 dX3_readNumber_102 rfl
theorem e59_103 : Rn X d 59 103 (l0 :: some (.int x) :: t) ST M h = Rn X d 59 104 (l0 :: some (.int x) :: t) (.int x :: ST) M h := r_iload_n mt_59 dX3_readNumber_103 rfl
theorem e59_104 : Rn X d 59 104 LS (.int x :: .ref a :: ST) M h = q_p X (M a) a 3 2 (.int x) d 59 107 LS ST M h := s_putN mt_59 dX3_readNumber_104 f_3_19 rfl rfl rfl
theorem e59_107 : Rn X d 59 107 LS ST M h = Rn X d 59 108 LS (.int (zN 0) :: ST) M h := r_iconst mt_59 dX3_readNumber_107 c_ic0
theorem e59_108 {v : Nat} (h0 : v < 2) : Rn X d 59 108 LS ([.int (zN v)]) M h = some (.inl (some (.int (zN v))), M, h) := s_zret mt_59 dX3_readNumber_108 rfl h0
theorem e59_109 : Rn X d 59 109 LS ST M h = Rn X d 59 110 LS (.int (zN 1) :: ST) M h := r_iconst mt_59 dX3_readNumber_109 c_ic1
theorem e59_110 {v : Nat} (h0 : v < 2) : Rn X d 59 110 LS ([.int (zN v)]) M h = some (.inl (some (.int (zN v))), M, h) := s_zret mt_59 dX3_readNumber_110 rfl h0
end
