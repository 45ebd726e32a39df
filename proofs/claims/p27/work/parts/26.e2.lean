/-! one rule an instruction, printed by wip/p27/gen25.py -/
section
variable {X : jX} {d : Nat} {l0 l1 l2 l3 l4 l5 l6 l7 l8 l9 l10 l11 : Option Value} {LS t : jL} {ST : List Value} {M : jM} {h : jH} {x y z w u : Int32} {a b c e : Nat} {p q : Int64} {f g : UInt64}
theorem e60_0 : Rn X d 60 0 (some (.int x) :: t) ST M h = Rn X d 60 1 (some (.int x) :: t) (.int x :: ST) M h := r_iload_n mt_60 dX3_isDigit_0 rfl
theorem e60_1 : Rn X d 60 1 LS ST M h = Rn X d 60 3 LS (.int (zN 48) :: ST) M h := r_bipush mt_60 dX3_isDigit_1 c_bi48
theorem e60_3 : Rn X d 60 3 LS (.int y :: .int x :: ST) M h = q_lt X x y d 60 16 6 LS ST M h := s_iclt mt_60 dX3_isDigit_3 rfl
theorem e60_6 : Rn X d 60 6 (some (.int x) :: t) ST M h = Rn X d 60 7 (some (.int x) :: t) (.int x :: ST) M h := r_iload_n mt_60 dX3_isDigit_6 rfl
theorem e60_7 : Rn X d 60 7 LS ST M h = Rn X d 60 9 LS (.int (zN 57) :: ST) M h := r_bipush mt_60 dX3_isDigit_7 c_bi57
theorem e60_9 : Rn X d 60 9 LS (.int y :: .int x :: ST) M h = q_lt X y x d 60 16 12 LS ST M h := s_icgt mt_60 dX3_isDigit_9 rfl
theorem e60_12 : Rn X d 60 12 LS ST M h = Rn X d 60 13 LS (.int (zN 1) :: ST) M h := r_iconst mt_60 dX3_isDigit_12 c_ic1
theorem e60_13 : Rn X d 60 13 LS ST M h = Rn X d 60 17 LS ST M h := r_goto mt_60 dX3_isDigit_13 rfl
theorem e60_16 : Rn X d 60 16 LS ST M h = Rn X d 60 17 LS (.int (zN 0) :: ST) M h := r_iconst mt_60 dX3_isDigit_16 c_ic0
theorem e60_17 {v : Nat} (h0 : v < 2) : Rn X d 60 17 LS ([.int (zN v)]) M h = some (.inl (some (.int (zN v))), M, h) := s_zret mt_60 dX3_isDigit_17 rfl h0
theorem e61_0 : Rn X d 61 0 (some (.ref a) :: t) ST M h = Rn X d 61 1 (some (.ref a) :: t) (.ref a :: ST) M h := r_aload_n mt_61 dX4_init_0 rfl
theorem e61_1 (hcs : Nat.ble (j_cs ST) 8 = true) : Rn X (d + 1) 61 1 LS (.ref a :: ST) M h = Rn X (d + 1) 61 4 LS ST M h := s_obj mt_61 dX4_init_1 cl_4_1 hcs
theorem e61_4 : Rn X d 61 4 (some (.ref a) :: t) ST M h = Rn X d 61 5 (some (.ref a) :: t) (.ref a :: ST) M h := r_aload_n mt_61 dX4_init_4 rfl
theorem e61_5 {n c z : Nat} (h0 : n < 1000) : Rn X d 61 5 LS ST M (n, true, c, z) = Rn X d 61 8 LS (.ref n :: ST) (va_up M n (.inr (2, j_df 2))) (n + 1, true, c + 1, z + j_nf 2) := r_newo mt_61 dX4_init_5 tl_4_7 ol_4_7 h0
theorem e61_8 : Rn X d 61 8 LS (.int x :: ST) M h = Rn X d 61 9 LS (.int x :: .int x :: ST) M h := r_dup mt_61 dX4_init_8 rfl
theorem e61_8r : Rn X d 61 8 LS (.ref a :: ST) M h = Rn X d 61 9 LS (.ref a :: .ref a :: ST) M h := r_dup mt_61 dX4_init_8 rfl
theorem e61_9 (hcs : Nat.ble (j_cs ST) 8 = true) : Rn X (d + 1) 61 9 LS (.ref a :: ST) M h = j_rc (M a) 2 (q_k X (Rn X d 31 0 [some (.ref a)] [] M (j_h0 h)) h (d + 1) 61 12 LS ST) := s_callI (Or.inl rfl) mt_61 dX4_init_9 cl_4_9 mt_31 rfl rfl (Nat.le_add_left _ _) rfl rfl rfl rfl hcs
theorem e61_12 : Rn X d 61 12 LS (.ref b :: .ref a :: ST) M h = q_p X (M a) a 4 0 (.ref b) d 61 15 LS ST M h := s_putF mt_61 dX4_init_12 f_4_10 rfl (by decide +kernel) rfl rfl
theorem e61_15 : Rn X d 61 15 (some (.ref a) :: t) ST M h = Rn X d 61 16 (some (.ref a) :: t) (.ref a :: ST) M h := r_aload_n mt_61 dX4_init_15 rfl
theorem e61_16 : Rn X d 61 16 LS ST M h = Rn X d 61 17 LS (.int (zN 4) :: ST) M h := r_iconst mt_61 dX4_init_16 c_ic4
theorem e61_17 {n v c z : Nat} (h0 : n < 1000) (h1 : v ≤ 1000) : Rn X d 61 17 LS (.int (zN v) :: ST) M (n, true, c, z) = Rn X d 61 20 LS (.ref n :: ST) (va_up M n (.inl (2, v, .inr (.inr (.inr (.inr (fun _ => none))))))) (n + 1, true, c + 1, z + v) := s_anew mt_61 dX4_init_17 ol_4_7 h0 h1
theorem e61_20 : Rn X d 61 20 LS (.ref b :: .ref a :: ST) M h = q_p X (M a) a 4 1 (.ref b) d 61 23 LS ST M h := s_putF mt_61 dX4_init_20 f_4_16 rfl (by decide +kernel) rfl rfl
theorem e61_23 : Rn X d 61 23 (some (.ref a) :: t) ST M h = Rn X d 61 24 (some (.ref a) :: t) (.ref a :: ST) M h := r_aload_n mt_61 dX4_init_23 rfl
theorem e61_24 : Rn X d 61 24 LS ST M h = Rn X d 61 25 LS (.int (zN 0) :: ST) M h := r_iconst mt_61 dX4_init_24 c_ic0
theorem e61_25 : Rn X d 61 25 LS (.int x :: .ref a :: ST) M h = q_p X (M a) a 4 2 (.int x) d 61 28 LS ST M h := s_putN mt_61 dX4_init_25 f_4_20 rfl rfl rfl
theorem e61_28 : Rn X d 61 28 (some (.ref a) :: t) ST M h = Rn X d 61 29 (some (.ref a) :: t) (.ref a :: ST) M h := r_aload_n mt_61 dX4_init_28 rfl
theorem e61_29 {n c z : Nat} (h0 : n < 1000) : Rn X d 61 29 LS ST M (n, true, c, z) = Rn X d 61 32 LS (.ref n :: ST) (va_up M n (.inr (3, j_df 3))) (n + 1, true, c + 1, z + j_nf 3) := r_newo mt_61 dX4_init_29 tl_4_24 ol_4_24 h0
theorem e61_32 : Rn X d 61 32 LS (.int x :: ST) M h = Rn X d 61 33 LS (.int x :: .int x :: ST) M h := r_dup mt_61 dX4_init_32 rfl
theorem e61_32r : Rn X d 61 32 LS (.ref a :: ST) M h = Rn X d 61 33 LS (.ref a :: .ref a :: ST) M h := r_dup mt_61 dX4_init_32 rfl
theorem e61_33 (hcs : Nat.ble (j_cs ST) 8 = true) : Rn X (d + 1) 61 33 LS (.ref a :: ST) M h = j_rc (M a) 3 (q_k X (Rn X d 46 0 [some (.ref a)] [] M (j_h0 h)) h (d + 1) 61 36 LS ST) := s_callI (Or.inr rfl) mt_61 dX4_init_33 cl_4_26 mt_46 rfl rfl (Nat.le_add_left _ _) rfl rfl rfl rfl hcs
theorem e61_36 : Rn X d 61 36 LS (.ref b :: .ref a :: ST) M h = q_p X (M a) a 4 3 (.ref b) d 61 39 LS ST M h := s_putF mt_61 dX4_init_36 f_4_27 rfl (by decide +kernel) rfl rfl
theorem e61_39 : Rn X d 61 39 (some (.ref a) :: t) ST M h = Rn X d 61 40 (some (.ref a) :: t) (.ref a :: ST) M h := r_aload_n mt_61 dX4_init_39 rfl
theorem e61_40 : Rn X d 61 40 LS ST M h = Rn X d 61 42 LS (.int (zN 8) :: ST) M h := r_bipush mt_61 dX4_init_40 c_bi8
theorem e61_42 {n v c z : Nat} (h0 : n < 1000) (h1 : v ≤ 1000) : Rn X d 61 42 LS (.int (zN v) :: ST) M (n, true, c, z) = Rn X d 61 44 LS (.ref n :: ST) (va_up M n (.inl (0, v, .inl (fun _ => 0)))) (n + 1, true, c + 1, z + v) := s_newI mt_61 dX4_init_42 h0 h1
theorem e61_44 : Rn X d 61 44 LS (.ref b :: .ref a :: ST) M h = q_p X (M a) a 4 4 (.ref b) d 61 47 LS ST M h := s_putF mt_61 dX4_init_44 f_4_31 rfl (by decide +kernel) rfl rfl
theorem e61_47 : Rn X d 61 47 LS ST M h = Rn X d 61 48 LS (.int (zN 0) :: ST) M h := r_iconst mt_61 dX4_init_47 c_ic0
theorem e61_48 (ho : j_one l0 = true) : Rn X d 61 48 (l0 :: l1 :: t) (.int x :: ST) M h = Rn X d 61 49 (l0 :: some (.int x) :: t) ST M h := r_istore_n mt_61 dX4_init_48 (by show 1 < _; simp only [List.length_cons]; omega) ho rfl
theorem e61_49 : Rn X d 61 49 (l0 :: some (.int x) :: t) ST M h = Rn X d 61 50 (l0 :: some (.int x) :: t) (.int x :: ST) M h := r_iload_n mt_61 dX4_init_49 rfl
theorem e61_50 : Rn X d 61 50 LS ST M h = Rn X d 61 51 LS (.int (zN 4) :: ST) M h := r_iconst mt_61 dX4_init_50 c_ic4
theorem e61_51 : Rn X d 61 51 LS (.int y :: .int x :: ST) M h = q_le X y x d 61 73 54 LS ST M h := s_icge mt_61 dX4_init_51 rfl
theorem e61_54 : Rn X d 61 54 (some (.ref a) :: t) ST M h = Rn X d 61 55 (some (.ref a) :: t) (.ref a :: ST) M h := r_aload_n mt_61 dX4_init_54 rfl
theorem e61_55 : Rn X d 61 55 LS (.ref a :: ST) M h = q_g X (M a) 4 1 d 61 58 LS ST M h := s_get mt_61 dX4_init_55 f_4_16
theorem e61_58 : Rn X d 61 58 (l0 :: some (.int x) :: t) ST M h = Rn X d 61 59 (l0 :: some (.int x) :: t) (.int x :: ST) M h := r_iload_n mt_61 dX4_init_58 rfl
theorem e61_59 {n c z : Nat} (h0 : n < 1000) : Rn X d 61 59 LS ST M (n, true, c, z) = Rn X d 61 62 LS (.ref n :: ST) (va_up M n (.inr (2, j_df 2))) (n + 1, true, c + 1, z + j_nf 2) := r_newo mt_61 dX4_init_59 tl_4_7 ol_4_7 h0
theorem e61_62 : Rn X d 61 62 LS (.int x :: ST) M h = Rn X d 61 63 LS (.int x :: .int x :: ST) M h := r_dup mt_61 dX4_init_62 rfl
theorem e61_62r : Rn X d 61 62 LS (.ref a :: ST) M h = Rn X d 61 63 LS (.ref a :: .ref a :: ST) M h := r_dup mt_61 dX4_init_62 rfl
theorem e61_63 (hcs : Nat.ble (j_cs ST) 8 = true) : Rn X (d + 1) 61 63 LS (.ref a :: ST) M h = j_rc (M a) 2 (q_k X (Rn X d 31 0 [some (.ref a)] [] M (j_h0 h)) h (d + 1) 61 66 LS ST) := s_callI (Or.inl rfl) mt_61 dX4_init_63 cl_4_9 mt_31 rfl rfl (Nat.le_add_left _ _) rfl rfl rfl rfl hcs
theorem e61_66 : Rn X d 61 66 LS (.ref b :: .int x :: .ref a :: ST) M h = q_sQ X (M a) (M b) a x b d 61 67 LS ST M h := s_aast mt_61 dX4_init_66
theorem e61_67 (ho : j_one l0 = true) : Rn X d 61 67 (l0 :: some (.int x) :: t) ST M h = Rn X d 61 70 (l0 :: some (.int (x + (zN 1))) :: t) ST M h := r_iinc mt_61 dX4_init_67 rfl (by simp only [List.length_cons]; omega) ho c_ic1 rfl
theorem e61_70 : Rn X d 61 70 LS ST M h = Rn X d 61 49 LS ST M h := r_goto mt_61 dX4_init_70 rfl
theorem e61_73 : Rn X d 61 73 LS [] M h = some (.inl none, M, h) := r_vret mt_61 dX4_init_73 rfl
theorem e62_0 : Rn X d 62 0 (l0 :: some (.int x) :: t) ST M h = Rn X d 62 1 (l0 :: some (.int x) :: t) (.int x :: ST) M h := r_iload_n mt_62 dX4_begin_0 rfl
theorem e62_1 : Rn X d 62 1 LS ST M h = Rn X d 62 2 LS (.int (zN 4) :: ST) M h := r_iconst mt_62 dX4_begin_1 c_ic4
theorem e62_2 : Rn X d 62 2 LS (.int y :: .int x :: ST) M h = q_lt X x y d 62 11 5 LS ST M h := s_iclt mt_62 dX4_begin_2 rfl
theorem e62_5 : Rn X d 62 5 (l0 :: some (.int x) :: t) ST M h = Rn X d 62 6 (l0 :: some (.int x) :: t) (.int x :: ST) M h := r_iload_n mt_62 dX4_begin_5 rfl
theorem e62_6 : Rn X d 62 6 LS ST M h = Rn X d 62 8 LS (.int (zN 32) :: ST) M h := r_bipush mt_62 dX4_begin_6 c_bi32
theorem e62_8 : Rn X d 62 8 LS (.int y :: .int x :: ST) M h = q_le X x y d 62 21 11 LS ST M h := s_icle mt_62 dX4_begin_8 rfl
theorem e62_11 : Rn X (d + 6) 62 11 LS [] M h = some (.inr "java/lang/IllegalArgumentException", M, j_thr h) := r_throw mt_62 dX4_begin_11 tl_4_35 rfl dX4_begin_14 dX4_begin_15 sr_4_37 dX4_begin_17 dX4_begin_20
theorem e62_21 : Rn X d 62 21 (some (.ref a) :: t) ST M h = Rn X d 62 22 (some (.ref a) :: t) (.ref a :: ST) M h := r_aload_n mt_62 dX4_begin_21 rfl
theorem e62_22 (hcs : Nat.ble (j_cs ST) 8 = true) : Rn X (d + 1) 62 22 LS (.ref a :: ST) M h = j_rc (M a) 4 (q_k X (Rn X d 96 0 [some (.ref a), none, none] [] M (j_h0 h)) h (d + 1) 62 25 LS ST) := s_callV mt_62 dX4_begin_22 cl_4_42 mt_96 rfl rfl (Nat.le_add_left _ _) rfl rfl rfl rfl hcs
theorem e62_25 : Rn X d 62 25 (some (.ref a) :: t) ST M h = Rn X d 62 26 (some (.ref a) :: t) (.ref a :: ST) M h := r_aload_n mt_62 dX4_begin_25 rfl
theorem e62_26 : Rn X d 62 26 LS (.ref a :: ST) M h = q_g X (M a) 4 0 d 62 29 LS ST M h := s_get mt_62 dX4_begin_26 f_4_10
theorem e62_29 : Rn X d 62 29 LS (.ref a :: ST) M h = q_g X (M a) 2 0 d 62 32 LS ST M h := s_get mt_62 dX4_begin_29 f_4_45
theorem e62_32 (hcs : Nat.ble (j_cs ST) 8 = true) : Rn X (d + 1) 62 32 LS (.ref a :: ST) M h = j_rc (M a) 0 (q_k X (Rn X d 4 0 [some (.ref a)] [] M (j_h0 h)) h (d + 1) 62 35 LS ST) := s_callV mt_62 dX4_begin_32 cl_4_49 mt_4 rfl rfl (Nat.le_add_left _ _) rfl rfl rfl rfl hcs
theorem e62_35 (ho : j_one l1 = true) : Rn X d 62 35 (l0 :: l1 :: l2 :: t) (.int x :: ST) M h = Rn X d 62 36 (l0 :: l1 :: some (.int x) :: t) ST M h := r_istore_n mt_62 dX4_begin_35 (by show 2 < _; simp only [List.length_cons]; omega) ho rfl
theorem e62_36 : Rn X d 62 36 (some (.ref a) :: t) ST M h = Rn X d 62 37 (some (.ref a) :: t) (.ref a :: ST) M h := r_aload_n mt_62 dX4_begin_36 rfl
theorem e62_37 : Rn X d 62 37 LS (.ref a :: ST) M h = q_g X (M a) 4 0 d 62 40 LS ST M h := s_get mt_62 dX4_begin_37 f_4_10
theorem e62_40 : Rn X d 62 40 (l0 :: some (.int x) :: t) ST M h = Rn X d 62 41 (l0 :: some (.int x) :: t) (.int x :: ST) M h := r_iload_n mt_62 dX4_begin_40 rfl
theorem e62_41 (hcs : Nat.ble (j_cs ST) 8 = true) : Rn X (d + 1) 62 41 LS (.int x :: .ref a :: ST) M h = j_rc (M a) 2 (q_k X (Rn X d 32 0 [some (.ref a), some (.int x)] [] M (j_h0 h)) h (d + 1) 62 44 LS ST) := s_callV mt_62 dX4_begin_41 cl_4_55 mt_32 rfl rfl (Nat.le_add_left _ _) rfl rfl rfl rfl hcs
theorem e62_44 : Rn X d 62 44 (l0 :: l1 :: some (.int x) :: t) ST M h = Rn X d 62 45 (l0 :: l1 :: some (.int x) :: t) (.int x :: ST) M h := r_iload_n mt_62 dX4_begin_44 rfl
theorem e62_45 : Rn X d 62 45 LS ([.int x]) M h = some (.inl (some (.int x)), M, h) := r_iret mt_62 dX4_begin_45 rfl
theorem e63_0 : Rn X d 63 0 (l0 :: some (.int x) :: t) ST M h = Rn X d 63 1 (l0 :: some (.int x) :: t) (.int x :: ST) M h := r_iload_n mt_63 dX4_write_0 rfl
theorem e63_1 : Rn X d 63 1 (l0 :: l1 :: some (.int x) :: t) ST M h = Rn X d 63 2 (l0 :: l1 :: some (.int x) :: t) (.int x :: ST) M h := r_iload_n mt_63 dX4_write_1 rfl
theorem e63_2 : Rn X d 63 2 (l0 :: l1 :: l2 :: some (.int x) :: t) ST M h = Rn X d 63 3 (l0 :: l1 :: l2 :: some (.int x) :: t) (.int x :: ST) M h := r_iload_n mt_63 dX4_write_2 rfl
theorem e63_3 : Rn X d 63 3 (l0 :: l1 :: l2 :: l3 :: some (.int x) :: t) ST M h = Rn X d 63 5 (l0 :: l1 :: l2 :: l3 :: some (.int x) :: t) (.int x :: ST) M h := r_iload mt_63 dX4_write_3 rfl
theorem e63_5 (hcs : Nat.ble (j_cs ST) 8 = true) : Rn X (d + 1) 63 5 LS (.int w :: .int z :: .int y :: .int x :: ST) M h = q_k X (Rn X d 90 0 [some (.int x), some (.int y), some (.int z), some (.int w)] [] M (j_h0 h)) h (d + 1) 63 8 LS ST := s_callS (Or.inl rfl) mt_63 dX4_write_5 cl_4_59 mt_90 rfl (Nat.le_add_left _ _) rfl rfl rfl rfl hcs
theorem e63_8 : Rn X d 63 8 LS (.int x :: ST) M h = q_eq X x (zN 0) d 63 11 21 LS ST M h := s_ifne mt_63 dX4_write_8 rfl
theorem e63_11 : Rn X (d + 6) 63 11 LS [] M h = some (.inr "java/lang/IllegalArgumentException", M, j_thr h) := r_throw mt_63 dX4_write_11 tl_4_35 rfl dX4_write_14 dX4_write_15 sr_4_63 dX4_write_17 dX4_write_20
theorem e63_21 : Rn X d 63 21 (some (.ref a) :: t) ST M h = Rn X d 63 22 (some (.ref a) :: t) (.ref a :: ST) M h := r_aload_n mt_63 dX4_write_21 rfl
theorem e63_22 : Rn X d 63 22 LS (.ref a :: ST) M h = q_g X (M a) 4 0 d 63 25 LS ST M h := s_get mt_63 dX4_write_22 f_4_10
theorem e63_25 : Rn X d 63 25 LS (.ref a :: ST) M h = q_g X (M a) 2 0 d 63 28 LS ST M h := s_get mt_63 dX4_write_25 f_4_45
theorem e63_28 (hcs : Nat.ble (j_cs ST) 8 = true) : Rn X (d + 1) 63 28 LS (.ref a :: ST) M h = j_rc (M a) 0 (q_k X (Rn X d 5 0 [some (.ref a)] [] M (j_h0 h)) h (d + 1) 63 31 LS ST) := s_callV mt_63 dX4_write_28 cl_4_65 mt_5 rfl rfl (Nat.le_add_left _ _) rfl rfl rfl rfl hcs
theorem e63_31 : Rn X d 63 31 LS (.int x :: ST) M h = q_eq X x (zN 0) d 63 44 34 LS ST M h := s_ifeq mt_63 dX4_write_31 rfl
theorem e63_34 : Rn X (d + 6) 63 34 LS [] M h = some (.inr "java/lang/IllegalStateException", M, j_thr h) := r_throw mt_63 dX4_write_34 tl_4_69 rfl dX4_write_37 dX4_write_38 sr_4_71 dX4_write_40 dX4_write_43
theorem e63_44 : Rn X d 63 44 (some (.ref a) :: t) ST M h = Rn X d 63 45 (some (.ref a) :: t) (.ref a :: ST) M h := r_aload_n mt_63 dX4_write_44 rfl
theorem e63_45 (hcs : Nat.ble (j_cs ST) 8 = true) : Rn X (d + 1) 63 45 LS (.ref a :: ST) M h = j_rc (M a) 4 (q_k X (Rn X d 96 0 [some (.ref a), none, none] [] M (j_h0 h)) h (d + 1) 63 48 LS ST) := s_callV mt_63 dX4_write_45 cl_4_42 mt_96 rfl rfl (Nat.le_add_left _ _) rfl rfl rfl rfl hcs
theorem e63_48 : Rn X d 63 48 (some (.ref a) :: t) ST M h = Rn X d 63 49 (some (.ref a) :: t) (.ref a :: ST) M h := r_aload_n mt_63 dX4_write_48 rfl
theorem e63_49 : Rn X d 63 49 LS (.ref a :: ST) M h = q_g X (M a) 4 0 d 63 52 LS ST M h := s_get mt_63 dX4_write_49 f_4_10
theorem e63_52 : Rn X d 63 52 LS (.ref a :: ST) M h = q_g X (M a) 2 0 d 63 55 LS ST M h := s_get mt_63 dX4_write_52 f_4_45
theorem e63_55 : Rn X d 63 55 (l0 :: some (.int x) :: t) ST M h = Rn X d 63 56 (l0 :: some (.int x) :: t) (.int x :: ST) M h := r_iload_n mt_63 dX4_write_55 rfl
theorem e63_56 : Rn X d 63 56 (l0 :: l1 :: some (.int x) :: t) ST M h = Rn X d 63 57 (l0 :: l1 :: some (.int x) :: t) (.int x :: ST) M h := r_iload_n mt_63 dX4_write_56 rfl
theorem e63_57 : Rn X d 63 57 (l0 :: l1 :: l2 :: some (.int x) :: t) ST M h = Rn X d 63 58 (l0 :: l1 :: l2 :: some (.int x) :: t) (.int x :: ST) M h := r_iload_n mt_63 dX4_write_57 rfl
theorem e63_58 : Rn X d 63 58 (l0 :: l1 :: l2 :: l3 :: some (.int x) :: t) ST M h = Rn X d 63 60 (l0 :: l1 :: l2 :: l3 :: some (.int x) :: t) (.int x :: ST) M h := r_iload mt_63 dX4_write_58 rfl
theorem e63_60 (hcs : Nat.ble (j_cs ST) 8 = true) : Rn X (d + 1) 63 60 LS (.int w :: .int z :: .int y :: .int x :: .ref a :: ST) M h = j_rc (M a) 0 (q_k X (Rn X d 7 0 [some (.ref a), some (.int x), some (.int y), some (.int z), some (.int w), none, none] [] M (j_h0 h)) h (d + 1) 63 63 LS ST) := s_callV mt_63 dX4_write_60 cl_4_74 mt_7 rfl rfl (Nat.le_add_left _ _) rfl rfl rfl rfl hcs
theorem e63_63 : Rn X d 63 63 LS ([.int x]) M h = some (.inl (some (.int x)), M, h) := r_iret mt_63 dX4_write_63 rfl
theorem e64_0 : Rn X d 64 0 (some (.ref a) :: t) ST M h = Rn X d 64 1 (some (.ref a) :: t) (.ref a :: ST) M h := r_aload_n mt_64 dX4_spoil_0 rfl
theorem e64_1 : Rn X d 64 1 (l0 :: some (.int x) :: t) ST M h = Rn X d 64 2 (l0 :: some (.int x) :: t) (.int x :: ST) M h := r_iload_n mt_64 dX4_spoil_1 rfl
theorem e64_2 (hcs : Nat.ble (j_cs ST) 8 = true) : Rn X (d + 1) 64 2 LS (.int x :: .ref a :: ST) M h = j_rc (M a) 4 (q_k X (Rn X d 95 0 [some (.ref a), some (.int x)] [] M (j_h0 h)) h (d + 1) 64 5 LS ST) := s_callV mt_64 dX4_spoil_2 cl_4_78 mt_95 rfl rfl (Nat.le_add_left _ _) rfl rfl rfl rfl hcs
theorem e64_5 : Rn X d 64 5 (l0 :: l1 :: some (.int x) :: t) ST M h = Rn X d 64 6 (l0 :: l1 :: some (.int x) :: t) (.int x :: ST) M h := r_iload_n mt_64 dX4_spoil_5 rfl
theorem e64_6 : Rn X d 64 6 LS (.int x :: ST) M h = q_lt X x (zN 0) d 64 14 9 LS ST M h := s_iflt mt_64 dX4_spoil_6 rfl
theorem e64_9 : Rn X d 64 9 (l0 :: l1 :: some (.int x) :: t) ST M h = Rn X d 64 10 (l0 :: l1 :: some (.int x) :: t) (.int x :: ST) M h := r_iload_n mt_64 dX4_spoil_9 rfl
theorem e64_10 : Rn X d 64 10 LS ST M h = Rn X d 64 11 LS (.int (zN 2) :: ST) M h := r_iconst mt_64 dX4_spoil_10 c_ic2
theorem e64_11 : Rn X d 64 11 LS (.int y :: .int x :: ST) M h = q_lt X x y d 64 24 14 LS ST M h := s_iclt mt_64 dX4_spoil_11 rfl
theorem e64_14 : Rn X (d + 6) 64 14 LS [] M h = some (.inr "java/lang/IllegalArgumentException", M, j_thr h) := r_throw mt_64 dX4_spoil_14 tl_4_35 rfl dX4_spoil_17 dX4_spoil_18 sr_4_81 dX4_spoil_20 dX4_spoil_23
theorem e64_24 : Rn X d 64 24 (some (.ref a) :: t) ST M h = Rn X d 64 25 (some (.ref a) :: t) (.ref a :: ST) M h := r_aload_n mt_64 dX4_spoil_24 rfl
theorem e64_25 (hcs : Nat.ble (j_cs ST) 8 = true) : Rn X (d + 1) 64 25 LS (.ref a :: ST) M h = j_rc (M a) 4 (q_k X (Rn X d 96 0 [some (.ref a), none, none] [] M (j_h0 h)) h (d + 1) 64 28 LS ST) := s_callV mt_64 dX4_spoil_25 cl_4_42 mt_96 rfl rfl (Nat.le_add_left _ _) rfl rfl rfl rfl hcs
theorem e64_28 : Rn X d 64 28 (some (.ref a) :: t) ST M h = Rn X d 64 29 (some (.ref a) :: t) (.ref a :: ST) M h := r_aload_n mt_64 dX4_spoil_28 rfl
theorem e64_29 : Rn X d 64 29 LS (.ref a :: ST) M h = q_g X (M a) 4 0 d 64 32 LS ST M h := s_get mt_64 dX4_spoil_29 f_4_10
theorem e64_32 : Rn X d 64 32 LS (.ref a :: ST) M h = q_g X (M a) 2 0 d 64 35 LS ST M h := s_get mt_64 dX4_spoil_32 f_4_45
theorem e64_35 : Rn X d 64 35 (l0 :: some (.int x) :: t) ST M h = Rn X d 64 36 (l0 :: some (.int x) :: t) (.int x :: ST) M h := r_iload_n mt_64 dX4_spoil_35 rfl
theorem e64_36 : Rn X d 64 36 (l0 :: l1 :: some (.int x) :: t) ST M h = Rn X d 64 37 (l0 :: l1 :: some (.int x) :: t) (.int x :: ST) M h := r_iload_n mt_64 dX4_spoil_36 rfl
theorem e64_37 (hcs : Nat.ble (j_cs ST) 8 = true) : Rn X (d + 1) 64 37 LS (.int y :: .int x :: .ref a :: ST) M h = j_rc (M a) 0 (q_k X (Rn X d 14 0 [some (.ref a), some (.int x), some (.int y), none] [] M (j_h0 h)) h (d + 1) 64 40 LS ST) := s_callV mt_64 dX4_spoil_37 cl_4_83 mt_14 rfl rfl (Nat.le_add_left _ _) rfl rfl rfl rfl hcs
theorem e64_40 : Rn X d 64 40 LS ([.int x]) M h = some (.inl (some (.int x)), M, h) := r_iret mt_64 dX4_spoil_40 rfl
theorem e65_0 : Rn X d 65 0 (some (.ref a) :: t) ST M h = Rn X d 65 1 (some (.ref a) :: t) (.ref a :: ST) M h := r_aload_n mt_65 dX4_repair_0 rfl
theorem e65_1 (hcs : Nat.ble (j_cs ST) 8 = true) : Rn X (d + 1) 65 1 LS (.ref a :: ST) M h = j_rc (M a) 4 (q_k X (Rn X d 96 0 [some (.ref a), none, none] [] M (j_h0 h)) h (d + 1) 65 4 LS ST) := s_callV mt_65 dX4_repair_1 cl_4_42 mt_96 rfl rfl (Nat.le_add_left _ _) rfl rfl rfl rfl hcs
theorem e65_4 : Rn X d 65 4 (some (.ref a) :: t) ST M h = Rn X d 65 5 (some (.ref a) :: t) (.ref a :: ST) M h := r_aload_n mt_65 dX4_repair_4 rfl
theorem e65_5 : Rn X d 65 5 LS (.ref a :: ST) M h = q_g X (M a) 4 0 d 65 8 LS ST M h := s_get mt_65 dX4_repair_5 f_4_10
theorem e65_8 (hcs : Nat.ble (j_cs ST) 8 = true) : Rn X (d + 1) 65 8 LS (.ref a :: ST) M h = j_rc (M a) 2 (q_k X (Rn X d 43 0 [some (.ref a), none, none] [] M (j_h0 h)) h (d + 1) 65 11 LS ST) := s_callV mt_65 dX4_repair_8 cl_4_87 mt_43 rfl rfl (Nat.le_add_left _ _) rfl rfl rfl rfl hcs
theorem e65_11 : Rn X d 65 11 LS ([.int x]) M h = some (.inl (some (.int x)), M, h) := r_iret mt_65 dX4_repair_11 rfl
theorem e66_0 : Rn X d 66 0 (l0 :: some (.int x) :: t) ST M h = Rn X d 66 1 (l0 :: some (.int x) :: t) (.int x :: ST) M h := r_iload_n mt_66 dX4_replay_0 rfl
theorem e66_1 (hcs : Nat.ble (j_cs ST) 8 = true) : Rn X (d + 1) 66 1 LS (.int x :: ST) M h = q_k X (Rn X d 94 0 [some (.int x)] [] M (j_h0 h)) h (d + 1) 66 4 LS ST := s_callS (Or.inl rfl) mt_66 dX4_replay_1 cl_4_90 mt_94 rfl (Nat.le_add_left _ _) rfl rfl rfl rfl hcs
theorem e66_4 : Rn X d 66 4 (l0 :: l1 :: some (.int x) :: t) ST M h = Rn X d 66 5 (l0 :: l1 :: some (.int x) :: t) (.int x :: ST) M h := r_iload_n mt_66 dX4_replay_4 rfl
theorem e66_5 : Rn X d 66 5 LS ST M h = Rn X d 66 6 LS (.int (zN 1) :: ST) M h := r_iconst mt_66 dX4_replay_5 c_ic1
theorem e66_6 : Rn X d 66 6 LS (.int y :: .int x :: ST) M h = q_lt X x y d 66 15 9 LS ST M h := s_iclt mt_66 dX4_replay_6 rfl
theorem e66_9 : Rn X d 66 9 (l0 :: l1 :: some (.int x) :: t) ST M h = Rn X d 66 10 (l0 :: l1 :: some (.int x) :: t) (.int x :: ST) M h := r_iload_n mt_66 dX4_replay_9 rfl
theorem e66_10 : Rn X d 66 10 LS ST M h = Rn X d 66 12 LS (.int (zN 99) :: ST) M h := r_bipush mt_66 dX4_replay_10 c_bi99
theorem e66_12 : Rn X d 66 12 LS (.int y :: .int x :: ST) M h = q_le X x y d 66 25 15 LS ST M h := s_icle mt_66 dX4_replay_12 rfl
theorem e66_15 : Rn X (d + 6) 66 15 LS [] M h = some (.inr "java/lang/IllegalArgumentException", M, j_thr h) := r_throw mt_66 dX4_replay_15 tl_4_35 rfl dX4_replay_18 dX4_replay_19 sr_4_93 dX4_replay_21 dX4_replay_24
theorem e66_25 : Rn X d 66 25 (some (.ref a) :: t) ST M h = Rn X d 66 26 (some (.ref a) :: t) (.ref a :: ST) M h := r_aload_n mt_66 dX4_replay_25 rfl
theorem e66_26 (hcs : Nat.ble (j_cs ST) 8 = true) : Rn X (d + 1) 66 26 LS (.ref a :: ST) M h = j_rc (M a) 4 (q_k X (Rn X d 96 0 [some (.ref a), none, none] [] M (j_h0 h)) h (d + 1) 66 29 LS ST) := s_callV mt_66 dX4_replay_26 cl_4_42 mt_96 rfl rfl (Nat.le_add_left _ _) rfl rfl rfl rfl hcs
theorem e66_29 : Rn X d 66 29 (some (.ref a) :: t) ST M h = Rn X d 66 30 (some (.ref a) :: t) (.ref a :: ST) M h := r_aload_n mt_66 dX4_replay_29 rfl
theorem e66_30 : Rn X d 66 30 LS (.ref a :: ST) M h = q_g X (M a) 4 0 d 66 33 LS ST M h := s_get mt_66 dX4_replay_30 f_4_10
theorem e66_33 : Rn X d 66 33 (some (.ref a) :: t) ST M h = Rn X d 66 34 (some (.ref a) :: t) (.ref a :: ST) M h := r_aload_n mt_66 dX4_replay_33 rfl
theorem e66_34 : Rn X d 66 34 LS (.ref a :: ST) M h = q_g X (M a) 4 0 d 66 37 LS ST M h := s_get mt_66 dX4_replay_34 f_4_10
theorem e66_37 : Rn X d 66 37 (l0 :: some (.int x) :: t) ST M h = Rn X d 66 38 (l0 :: some (.int x) :: t) (.int x :: ST) M h := r_iload_n mt_66 dX4_replay_37 rfl
theorem e66_38 (hcs : Nat.ble (j_cs ST) 8 = true) : Rn X (d + 1) 66 38 LS (.int x :: .ref a :: ST) M h = j_rc (M a) 2 (q_k X (Rn X d 34 0 [some (.ref a), some (.int x)] [] M (j_h0 h)) h (d + 1) 66 41 LS ST) := s_callV mt_66 dX4_replay_38 cl_4_95 mt_34 rfl rfl (Nat.le_add_left _ _) rfl rfl rfl rfl hcs
theorem e66_41 : Rn X d 66 41 (l0 :: l1 :: some (.int x) :: t) ST M h = Rn X d 66 42 (l0 :: l1 :: some (.int x) :: t) (.int x :: ST) M h := r_iload_n mt_66 dX4_replay_41 rfl
theorem e66_42 (hcs : Nat.ble (j_cs ST) 8 = true) : Rn X (d + 1) 66 42 LS (.int x :: .ref b :: .ref a :: ST) M h = j_rc (M a) 2 (q_k X (Rn X d 40 0 [some (.ref a), some (.ref b), some (.int x), none] [] M (j_h0 h)) h (d + 1) 66 45 LS ST) := s_callV mt_66 dX4_replay_42 cl_4_99 mt_40 rfl rfl (Nat.le_add_left _ _) rfl rfl rfl rfl hcs
theorem e66_45 : Rn X d 66 45 LS ([.int x]) M h = some (.inl (some (.int x)), M, h) := r_iret mt_66 dX4_replay_45 rfl
theorem e67_0 : Rn X d 67 0 (l0 :: some (.int x) :: t) ST M h = Rn X d 67 1 (l0 :: some (.int x) :: t) (.int x :: ST) M h := r_iload_n mt_67 dX4_snapshot_0 rfl
theorem e67_1 (hcs : Nat.ble (j_cs ST) 8 = true) : Rn X (d + 1) 67 1 LS (.int x :: ST) M h = q_k X (Rn X d 94 0 [some (.int x)] [] M (j_h0 h)) h (d + 1) 67 4 LS ST := s_callS (Or.inl rfl) mt_67 dX4_snapshot_1 cl_4_90 mt_94 rfl (Nat.le_add_left _ _) rfl rfl rfl rfl hcs
theorem e67_4 : Rn X d 67 4 (some (.ref a) :: t) ST M h = Rn X d 67 5 (some (.ref a) :: t) (.ref a :: ST) M h := r_aload_n mt_67 dX4_snapshot_4 rfl
theorem e67_5 : Rn X d 67 5 LS (.ref a :: ST) M h = q_g X (M a) 4 0 d 67 8 LS ST M h := s_get mt_67 dX4_snapshot_5 f_4_10
theorem e67_8 : Rn X d 67 8 (l0 :: some (.int x) :: t) ST M h = Rn X d 67 9 (l0 :: some (.int x) :: t) (.int x :: ST) M h := r_iload_n mt_67 dX4_snapshot_8 rfl
theorem e67_9 (hcs : Nat.ble (j_cs ST) 8 = true) : Rn X (d + 1) 67 9 LS (.int x :: .ref a :: ST) M h = j_rc (M a) 2 (q_k X (Rn X d 34 0 [some (.ref a), some (.int x)] [] M (j_h0 h)) h (d + 1) 67 12 LS ST) := s_callV mt_67 dX4_snapshot_9 cl_4_95 mt_34 rfl rfl (Nat.le_add_left _ _) rfl rfl rfl rfl hcs
theorem e67_12 : Rn X d 67 12 LS (.ref a :: ST) M h = q_g X (M a) 1 2 d 67 15 LS ST M h := s_get mt_67 dX4_snapshot_12 f_4_103
theorem e67_15 : Rn X d 67 15 LS (.int x :: ST) M h = q_eq X x (zN 0) d 67 18 28 LS ST M h := s_ifne mt_67 dX4_snapshot_15 rfl
theorem e67_18 : Rn X (d + 6) 67 18 LS [] M h = some (.inr "java/lang/IllegalStateException", M, j_thr h) := r_throw mt_67 dX4_snapshot_18 tl_4_69 rfl dX4_snapshot_21 dX4_snapshot_22 sr_4_109 dX4_snapshot_24 dX4_snapshot_27
theorem e67_28 : Rn X d 67 28 (some (.ref a) :: t) ST M h = Rn X d 67 29 (some (.ref a) :: t) (.ref a :: ST) M h := r_aload_n mt_67 dX4_snapshot_28 rfl
theorem e67_29 (hcs : Nat.ble (j_cs ST) 8 = true) : Rn X (d + 1) 67 29 LS (.ref a :: ST) M h = j_rc (M a) 4 (q_k X (Rn X d 96 0 [some (.ref a), none, none] [] M (j_h0 h)) h (d + 1) 67 32 LS ST) := s_callV mt_67 dX4_snapshot_29 cl_4_42 mt_96 rfl rfl (Nat.le_add_left _ _) rfl rfl rfl rfl hcs
theorem e67_32 : Rn X d 67 32 (some (.ref a) :: t) ST M h = Rn X d 67 33 (some (.ref a) :: t) (.ref a :: ST) M h := r_aload_n mt_67 dX4_snapshot_32 rfl
theorem e67_33 : Rn X d 67 33 LS (.ref a :: ST) M h = q_g X (M a) 4 0 d 67 36 LS ST M h := s_get mt_67 dX4_snapshot_33 f_4_10
theorem e67_36 : Rn X d 67 36 (some (.ref a) :: t) ST M h = Rn X d 67 37 (some (.ref a) :: t) (.ref a :: ST) M h := r_aload_n mt_67 dX4_snapshot_36 rfl
theorem e67_37 : Rn X d 67 37 LS (.ref a :: ST) M h = q_g X (M a) 4 0 d 67 40 LS ST M h := s_get mt_67 dX4_snapshot_37 f_4_10
theorem e67_40 : Rn X d 67 40 (l0 :: some (.int x) :: t) ST M h = Rn X d 67 41 (l0 :: some (.int x) :: t) (.int x :: ST) M h := r_iload_n mt_67 dX4_snapshot_40 rfl
theorem e67_41 (hcs : Nat.ble (j_cs ST) 8 = true) : Rn X (d + 1) 67 41 LS (.int x :: .ref a :: ST) M h = j_rc (M a) 2 (q_k X (Rn X d 34 0 [some (.ref a), some (.int x)] [] M (j_h0 h)) h (d + 1) 67 44 LS ST) := s_callV mt_67 dX4_snapshot_41 cl_4_95 mt_34 rfl rfl (Nat.le_add_left _ _) rfl rfl rfl rfl hcs
theorem e67_44 (hcs : Nat.ble (j_cs ST) 8 = true) : Rn X (d + 1) 67 44 LS (.ref b :: .ref a :: ST) M h = j_rc (M a) 2 (q_k X (Rn X d 42 0 [some (.ref a), some (.ref b), none] [] M (j_h0 h)) h (d + 1) 67 47 LS ST) := s_callV mt_67 dX4_snapshot_44 cl_4_111 mt_42 rfl rfl (Nat.le_add_left _ _) rfl rfl rfl rfl hcs
theorem e67_47 : Rn X d 67 47 LS ([.int x]) M h = some (.inl (some (.int x)), M, h) := r_iret mt_67 dX4_snapshot_47 rfl
theorem e68_0 : Rn X d 68 0 (l0 :: some (.int x) :: t) ST M h = Rn X d 68 1 (l0 :: some (.int x) :: t) (.int x :: ST) M h := r_iload_n mt_68 dX4_crash_0 rfl
theorem e68_1 (hcs : Nat.ble (j_cs ST) 8 = true) : Rn X (d + 1) 68 1 LS (.int x :: ST) M h = q_k X (Rn X d 94 0 [some (.int x)] [] M (j_h0 h)) h (d + 1) 68 4 LS ST := s_callS (Or.inl rfl) mt_68 dX4_crash_1 cl_4_90 mt_94 rfl (Nat.le_add_left _ _) rfl rfl rfl rfl hcs
theorem e68_4 : Rn X d 68 4 (some (.ref a) :: t) ST M h = Rn X d 68 5 (some (.ref a) :: t) (.ref a :: ST) M h := r_aload_n mt_68 dX4_crash_4 rfl
theorem e68_5 (hcs : Nat.ble (j_cs ST) 8 = true) : Rn X (d + 1) 68 5 LS (.ref a :: ST) M h = j_rc (M a) 4 (q_k X (Rn X d 96 0 [some (.ref a), none, none] [] M (j_h0 h)) h (d + 1) 68 8 LS ST) := s_callV mt_68 dX4_crash_5 cl_4_42 mt_96 rfl rfl (Nat.le_add_left _ _) rfl rfl rfl rfl hcs
theorem e68_8 : Rn X d 68 8 (some (.ref a) :: t) ST M h = Rn X d 68 9 (some (.ref a) :: t) (.ref a :: ST) M h := r_aload_n mt_68 dX4_crash_8 rfl
theorem e68_9 : Rn X d 68 9 LS (.ref a :: ST) M h = q_g X (M a) 4 0 d 68 12 LS ST M h := s_get mt_68 dX4_crash_9 f_4_10
theorem e68_12 : Rn X d 68 12 (l0 :: some (.int x) :: t) ST M h = Rn X d 68 13 (l0 :: some (.int x) :: t) (.int x :: ST) M h := r_iload_n mt_68 dX4_crash_12 rfl
theorem e68_13 (hcs : Nat.ble (j_cs ST) 8 = true) : Rn X (d + 1) 68 13 LS (.int x :: .ref a :: ST) M h = j_rc (M a) 2 (q_k X (Rn X d 34 0 [some (.ref a), some (.int x)] [] M (j_h0 h)) h (d + 1) 68 16 LS ST) := s_callV mt_68 dX4_crash_13 cl_4_95 mt_34 rfl rfl (Nat.le_add_left _ _) rfl rfl rfl rfl hcs
theorem e68_16 (hcs : Nat.ble (j_cs ST) 8 = true) : Rn X (d + 1) 68 16 LS (.ref a :: ST) M h = j_rc (M a) 1 (q_k X (Rn X d 28 0 [some (.ref a), none] [] M (j_h0 h)) h (d + 1) 68 19 LS ST) := s_callV mt_68 dX4_crash_16 cl_4_115 mt_28 rfl rfl (Nat.le_add_left _ _) rfl rfl rfl rfl hcs
theorem e68_19 : Rn X d 68 19 LS ([.int x]) M h = some (.inl (some (.int x)), M, h) := r_iret mt_68 dX4_crash_19 rfl
theorem e69_0 : Rn X d 69 0 (l0 :: some (.int x) :: t) ST M h = Rn X d 69 1 (l0 :: some (.int x) :: t) (.int x :: ST) M h := r_iload_n mt_69 dX4_link_0 rfl
theorem e69_1 (hcs : Nat.ble (j_cs ST) 8 = true) : Rn X (d + 1) 69 1 LS (.int x :: ST) M h = q_k X (Rn X d 94 0 [some (.int x)] [] M (j_h0 h)) h (d + 1) 69 4 LS ST := s_callS (Or.inl rfl) mt_69 dX4_link_1 cl_4_90 mt_94 rfl (Nat.le_add_left _ _) rfl rfl rfl rfl hcs
theorem e69_4 : Rn X d 69 4 (some (.ref a) :: t) ST M h = Rn X d 69 5 (some (.ref a) :: t) (.ref a :: ST) M h := r_aload_n mt_69 dX4_link_4 rfl
theorem e69_5 : Rn X d 69 5 LS (.ref a :: ST) M h = q_g X (M a) 4 0 d 69 8 LS ST M h := s_get mt_69 dX4_link_5 f_4_10
theorem e69_8 : Rn X d 69 8 (l0 :: some (.int x) :: t) ST M h = Rn X d 69 9 (l0 :: some (.int x) :: t) (.int x :: ST) M h := r_iload_n mt_69 dX4_link_8 rfl
theorem e69_9 (hcs : Nat.ble (j_cs ST) 8 = true) : Rn X (d + 1) 69 9 LS (.int x :: .ref a :: ST) M h = j_rc (M a) 2 (q_k X (Rn X d 34 0 [some (.ref a), some (.int x)] [] M (j_h0 h)) h (d + 1) 69 12 LS ST) := s_callV mt_69 dX4_link_9 cl_4_95 mt_34 rfl rfl (Nat.le_add_left _ _) rfl rfl rfl rfl hcs
theorem e69_12 : Rn X d 69 12 LS (.ref a :: ST) M h = q_g X (M a) 1 2 d 69 15 LS ST M h := s_get mt_69 dX4_link_12 f_4_103
theorem e69_15 : Rn X d 69 15 (l0 :: l1 :: some (.int x) :: t) ST M h = Rn X d 69 16 (l0 :: l1 :: some (.int x) :: t) (.int x :: ST) M h := r_iload_n mt_69 dX4_link_15 rfl
theorem e69_16 : Rn X d 69 16 LS (.int y :: .int x :: ST) M h = q_eq X x y d 69 19 29 LS ST M h := s_icne mt_69 dX4_link_16 rfl
theorem e69_19 : Rn X (d + 6) 69 19 LS [] M h = some (.inr "java/lang/IllegalStateException", M, j_thr h) := r_throw mt_69 dX4_link_19 tl_4_69 rfl dX4_link_22 dX4_link_23 sr_4_118 dX4_link_25 dX4_link_28
theorem e69_29 : Rn X d 69 29 (some (.ref a) :: t) ST M h = Rn X d 69 30 (some (.ref a) :: t) (.ref a :: ST) M h := r_aload_n mt_69 dX4_link_29 rfl
theorem e69_30 (hcs : Nat.ble (j_cs ST) 8 = true) : Rn X (d + 1) 69 30 LS (.ref a :: ST) M h = j_rc (M a) 4 (q_k X (Rn X d 96 0 [some (.ref a), none, none] [] M (j_h0 h)) h (d + 1) 69 33 LS ST) := s_callV mt_69 dX4_link_30 cl_4_42 mt_96 rfl rfl (Nat.le_add_left _ _) rfl rfl rfl rfl hcs
theorem e69_33 : Rn X d 69 33 (some (.ref a) :: t) ST M h = Rn X d 69 34 (some (.ref a) :: t) (.ref a :: ST) M h := r_aload_n mt_69 dX4_link_33 rfl
theorem e69_34 : Rn X d 69 34 LS (.ref a :: ST) M h = q_g X (M a) 4 0 d 69 37 LS ST M h := s_get mt_69 dX4_link_34 f_4_10
theorem e69_37 : Rn X d 69 37 (l0 :: some (.int x) :: t) ST M h = Rn X d 69 38 (l0 :: some (.int x) :: t) (.int x :: ST) M h := r_iload_n mt_69 dX4_link_37 rfl
theorem e69_38 (hcs : Nat.ble (j_cs ST) 8 = true) : Rn X (d + 1) 69 38 LS (.int x :: .ref a :: ST) M h = j_rc (M a) 2 (q_k X (Rn X d 34 0 [some (.ref a), some (.int x)] [] M (j_h0 h)) h (d + 1) 69 41 LS ST) := s_callV mt_69 dX4_link_38 cl_4_95 mt_34 rfl rfl (Nat.le_add_left _ _) rfl rfl rfl rfl hcs
theorem e69_41 : Rn X d 69 41 (l0 :: l1 :: some (.int x) :: t) ST M h = Rn X d 69 42 (l0 :: l1 :: some (.int x) :: t) (.int x :: ST) M h := r_iload_n mt_69 dX4_link_41 rfl
theorem e69_42 {v : Nat} (h0 : v < 2) : Rn X d 69 42 LS (.int (zN v) :: .ref a :: ST) M h = q_p X (M a) a 1 2 (.int (zN v)) d 69 45 LS ST M h := s_putN mt_69 dX4_link_42 f_4_103 rfl (zN_nb h0) (zN_fb h0)
theorem e69_45 : Rn X d 69 45 (some (.ref a) :: t) ST M h = Rn X d 69 46 (some (.ref a) :: t) (.ref a :: ST) M h := r_aload_n mt_69 dX4_link_45 rfl
theorem e69_46 : Rn X d 69 46 LS (.ref a :: ST) M h = q_g X (M a) 4 0 d 69 49 LS ST M h := s_get mt_69 dX4_link_46 f_4_10
theorem e69_49 (hcs : Nat.ble (j_cs ST) 8 = true) : Rn X (d + 1) 69 49 LS (.ref a :: ST) M h = j_rc (M a) 2 (q_k X (Rn X d 38 0 [some (.ref a)] [] M (j_h0 h)) h (d + 1) 69 52 LS ST) := s_callV mt_69 dX4_link_49 cl_4_120 mt_38 rfl rfl (Nat.le_add_left _ _) rfl rfl rfl rfl hcs
theorem e69_52 : Rn X d 69 52 LS ([.int x]) M h = some (.inl (some (.int x)), M, h) := r_iret mt_69 dX4_link_52 rfl
theorem e70_0 : Rn X d 70 0 (some (.ref a) :: t) ST M h = Rn X d 70 1 (some (.ref a) :: t) (.ref a :: ST) M h := r_aload_n mt_70 dX4_order_0 rfl
theorem e70_1 : Rn X d 70 1 (l0 :: some (.int x) :: t) ST M h = Rn X d 70 2 (l0 :: some (.int x) :: t) (.int x :: ST) M h := r_iload_n mt_70 dX4_order_1 rfl
theorem e70_2 (hcs : Nat.ble (j_cs ST) 8 = true) : Rn X (d + 1) 70 2 LS (.int x :: .ref a :: ST) M h = j_rc (M a) 4 (q_k X (Rn X d 95 0 [some (.ref a), some (.int x)] [] M (j_h0 h)) h (d + 1) 70 5 LS ST) := s_callV mt_70 dX4_order_2 cl_4_78 mt_95 rfl rfl (Nat.le_add_left _ _) rfl rfl rfl rfl hcs
theorem e70_5 : Rn X d 70 5 (l0 :: l1 :: some (.int x) :: t) ST M h = Rn X d 70 6 (l0 :: l1 :: some (.int x) :: t) (.int x :: ST) M h := r_iload_n mt_70 dX4_order_5 rfl
theorem e70_6_0 : Rn X d 70 6 LS (.int (zN 0) :: ST) M h = Rn X d 70 44 LS ST M h := s_tab (off := 38) mt_70 dX4_order_6 (by decide) (by decide) (by decide +kernel) rfl
theorem e70_6_1 : Rn X d 70 6 LS (.int (zN 1) :: ST) M h = Rn X d 70 56 LS ST M h := s_tab (off := 50) mt_70 dX4_order_6 (by decide) (by decide) (by decide +kernel) rfl
theorem e70_6_2 : Rn X d 70 6 LS (.int (zN 2) :: ST) M h = Rn X d 70 68 LS ST M h := s_tab (off := 62) mt_70 dX4_order_6 (by decide) (by decide) (by decide +kernel) rfl
theorem e70_6_3 : Rn X d 70 6 LS (.int (zN 3) :: ST) M h = Rn X d 70 80 LS ST M h := s_tab (off := 74) mt_70 dX4_order_6 (by decide) (by decide) (by decide +kernel) rfl
theorem e70_6_4 : Rn X d 70 6 LS (.int (zN 4) :: ST) M h = Rn X d 70 92 LS ST M h := s_tab (off := 86) mt_70 dX4_order_6 (by decide) (by decide) (by decide +kernel) rfl
theorem e70_6_5 : Rn X d 70 6 LS (.int (zN 5) :: ST) M h = Rn X d 70 104 LS ST M h := s_tab (off := 98) mt_70 dX4_order_6 (by decide) (by decide) (by decide +kernel) rfl
theorem e70_6_h {v : Nat} (h0 : v < 2147483648) (h1 : 5 < v) : Rn X d 70 6 LS (.int (zN v) :: ST) M h = Rn X d 70 113 LS ST M h := s_tabD mt_70 dX4_order_6 rfl h0 (Or.inr (by omega))
theorem e70_6_m {v : Nat} (h0 : v < 2147483648) : Rn X d 70 6 LS (.int (zM v) :: ST) M h = Rn X d 70 113 LS ST M h := s_tabM mt_70 dX4_order_6 rfl (by decide) h0
theorem e70_44 : Rn X d 70 44 (some (.ref a) :: t) ST M h = Rn X d 70 45 (some (.ref a) :: t) (.ref a :: ST) M h := r_aload_n mt_70 dX4_order_44 rfl
theorem e70_45 : Rn X d 70 45 LS (.ref a :: ST) M h = q_g X (M a) 4 0 d 70 48 LS ST M h := s_get mt_70 dX4_order_45 f_4_10
theorem e70_48 : Rn X d 70 48 LS (.ref a :: ST) M h = q_g X (M a) 2 0 d 70 51 LS ST M h := s_get mt_70 dX4_order_48 f_4_45
theorem e70_51 : Rn X d 70 51 (l0 :: some (.int x) :: t) ST M h = Rn X d 70 52 (l0 :: some (.int x) :: t) (.int x :: ST) M h := r_iload_n mt_70 dX4_order_51 rfl
theorem e70_52 (hcs : Nat.ble (j_cs ST) 8 = true) : Rn X (d + 1) 70 52 LS (.int x :: .ref a :: ST) M h = j_rc (M a) 0 (q_k X (Rn X d 8 0 [some (.ref a), some (.int x)] [] M (j_h0 h)) h (d + 1) 70 55 LS ST) := s_callV mt_70 dX4_order_52 cl_4_123 mt_8 rfl rfl (Nat.le_add_left _ _) rfl rfl rfl rfl hcs
theorem e70_55 : Rn X d 70 55 LS ([.int x]) M h = some (.inl (some (.int x)), M, h) := r_iret mt_70 dX4_order_55 rfl
theorem e70_56 : Rn X d 70 56 (some (.ref a) :: t) ST M h = Rn X d 70 57 (some (.ref a) :: t) (.ref a :: ST) M h := r_aload_n mt_70 dX4_order_56 rfl
theorem e70_57 : Rn X d 70 57 LS (.ref a :: ST) M h = q_g X (M a) 4 0 d 70 60 LS ST M h := s_get mt_70 dX4_order_57 f_4_10
theorem e70_60 : Rn X d 70 60 LS (.ref a :: ST) M h = q_g X (M a) 2 0 d 70 63 LS ST M h := s_get mt_70 dX4_order_60 f_4_45
theorem e70_63 : Rn X d 70 63 (l0 :: some (.int x) :: t) ST M h = Rn X d 70 64 (l0 :: some (.int x) :: t) (.int x :: ST) M h := r_iload_n mt_70 dX4_order_63 rfl
theorem e70_64 (hcs : Nat.ble (j_cs ST) 8 = true) : Rn X (d + 1) 70 64 LS (.int x :: .ref a :: ST) M h = j_rc (M a) 0 (q_k X (Rn X d 9 0 [some (.ref a), some (.int x)] [] M (j_h0 h)) h (d + 1) 70 67 LS ST) := s_callV mt_70 dX4_order_64 cl_4_127 mt_9 rfl rfl (Nat.le_add_left _ _) rfl rfl rfl rfl hcs
theorem e70_67 : Rn X d 70 67 LS ([.int x]) M h = some (.inl (some (.int x)), M, h) := r_iret mt_70 dX4_order_67 rfl
theorem e70_68 : Rn X d 70 68 (some (.ref a) :: t) ST M h = Rn X d 70 69 (some (.ref a) :: t) (.ref a :: ST) M h := r_aload_n mt_70 dX4_order_68 rfl
theorem e70_69 : Rn X d 70 69 LS (.ref a :: ST) M h = q_g X (M a) 4 0 d 70 72 LS ST M h := s_get mt_70 dX4_order_69 f_4_10
theorem e70_72 : Rn X d 70 72 LS (.ref a :: ST) M h = q_g X (M a) 2 0 d 70 75 LS ST M h := s_get mt_70 dX4_order_72 f_4_45
theorem e70_75 : Rn X d 70 75 (l0 :: some (.int x) :: t) ST M h = Rn X d 70 76 (l0 :: some (.int x) :: t) (.int x :: ST) M h := r_iload_n mt_70 dX4_order_75 rfl
theorem e70_76 (hcs : Nat.ble (j_cs ST) 8 = true) : Rn X (d + 1) 70 76 LS (.int x :: .ref a :: ST) M h = j_rc (M a) 0 (q_k X (Rn X d 10 0 [some (.ref a), some (.int x)] [] M (j_h0 h)) h (d + 1) 70 79 LS ST) := s_callV mt_70 dX4_order_76 cl_4_130 mt_10 rfl rfl (Nat.le_add_left _ _) rfl rfl rfl rfl hcs
theorem e70_79 : Rn X d 70 79 LS ([.int x]) M h = some (.inl (some (.int x)), M, h) := r_iret mt_70 dX4_order_79 rfl
theorem e70_80 : Rn X d 70 80 (some (.ref a) :: t) ST M h = Rn X d 70 81 (some (.ref a) :: t) (.ref a :: ST) M h := r_aload_n mt_70 dX4_order_80 rfl
theorem e70_81 : Rn X d 70 81 LS (.ref a :: ST) M h = q_g X (M a) 4 0 d 70 84 LS ST M h := s_get mt_70 dX4_order_81 f_4_10
theorem e70_84 : Rn X d 70 84 LS (.ref a :: ST) M h = q_g X (M a) 2 0 d 70 87 LS ST M h := s_get mt_70 dX4_order_84 f_4_45
theorem e70_87 : Rn X d 70 87 (l0 :: some (.int x) :: t) ST M h = Rn X d 70 88 (l0 :: some (.int x) :: t) (.int x :: ST) M h := r_iload_n mt_70 dX4_order_87 rfl
theorem e70_88 (hcs : Nat.ble (j_cs ST) 8 = true) : Rn X (d + 1) 70 88 LS (.int x :: .ref a :: ST) M h = j_rc (M a) 0 (q_k X (Rn X d 11 0 [some (.ref a), some (.int x)] [] M (j_h0 h)) h (d + 1) 70 91 LS ST) := s_callV mt_70 dX4_order_88 cl_4_133 mt_11 rfl rfl (Nat.le_add_left _ _) rfl rfl rfl rfl hcs
theorem e70_91 : Rn X d 70 91 LS ([.int x]) M h = some (.inl (some (.int x)), M, h) := r_iret mt_70 dX4_order_91 rfl
theorem e70_92 : Rn X d 70 92 (some (.ref a) :: t) ST M h = Rn X d 70 93 (some (.ref a) :: t) (.ref a :: ST) M h := r_aload_n mt_70 dX4_order_92 rfl
theorem e70_93 : Rn X d 70 93 LS (.ref a :: ST) M h = q_g X (M a) 4 0 d 70 96 LS ST M h := s_get mt_70 dX4_order_93 f_4_10
theorem e70_96 : Rn X d 70 96 LS (.ref a :: ST) M h = q_g X (M a) 2 0 d 70 99 LS ST M h := s_get mt_70 dX4_order_96 f_4_45
theorem e70_99 : Rn X d 70 99 (l0 :: some (.int x) :: t) ST M h = Rn X d 70 100 (l0 :: some (.int x) :: t) (.int x :: ST) M h := r_iload_n mt_70 dX4_order_99 rfl
theorem e70_100 (hcs : Nat.ble (j_cs ST) 8 = true) : Rn X (d + 1) 70 100 LS (.int x :: .ref a :: ST) M h = j_rc (M a) 0 (q_k X (Rn X d 12 0 [some (.ref a), some (.int x)] [] M (j_h0 h)) h (d + 1) 70 103 LS ST) := s_callV mt_70 dX4_order_100 cl_4_136 mt_12 rfl rfl (Nat.le_add_left _ _) rfl rfl rfl rfl hcs
theorem e70_103 : Rn X d 70 103 LS ([.int x]) M h = some (.inl (some (.int x)), M, h) := r_iret mt_70 dX4_order_103 rfl
theorem e70_104 : Rn X d 70 104 (some (.ref a) :: t) ST M h = Rn X d 70 105 (some (.ref a) :: t) (.ref a :: ST) M h := r_aload_n mt_70 dX4_order_104 rfl
theorem e70_105 : Rn X d 70 105 LS (.ref a :: ST) M h = q_g X (M a) 4 0 d 70 108 LS ST M h := s_get mt_70 dX4_order_105 f_4_10
theorem e70_108 : Rn X d 70 108 (l0 :: some (.int x) :: t) ST M h = Rn X d 70 109 (l0 :: some (.int x) :: t) (.int x :: ST) M h := r_iload_n mt_70 dX4_order_108 rfl
theorem e70_109 (hcs : Nat.ble (j_cs ST) 8 = true) : Rn X (d + 1) 70 109 LS (.int x :: .ref a :: ST) M h = j_rc (M a) 2 (q_k X (Rn X d 39 0 [some (.ref a), some (.int x)] [] M (j_h0 h)) h (d + 1) 70 112 LS ST) := s_callV mt_70 dX4_order_109 cl_4_139 mt_39 rfl rfl (Nat.le_add_left _ _) rfl rfl rfl rfl hcs
theorem e70_112 : Rn X d 70 112 LS ([.int x]) M h = some (.inl (some (.int x)), M, h) := r_iret mt_70 dX4_order_112 rfl
theorem e70_113 : Rn X (d + 6) 70 113 LS [] M h = some (.inr "java/lang/IllegalArgumentException", M, j_thr h) := r_throw mt_70 dX4_order_113 tl_4_35 rfl dX4_order_116 dX4_order_117 sr_4_142 dX4_order_119 dX4_order_122
theorem e71_0 : Rn X d 71 0 (l0 :: some (.int x) :: t) ST M h = Rn X d 71 1 (l0 :: some (.int x) :: t) (.int x :: ST) M h := r_iload_n mt_71 dX4_ship_0 rfl
theorem e71_1 (hcs : Nat.ble (j_cs ST) 8 = true) : Rn X (d + 1) 71 1 LS (.int x :: ST) M h = q_k X (Rn X d 94 0 [some (.int x)] [] M (j_h0 h)) h (d + 1) 71 4 LS ST := s_callS (Or.inl rfl) mt_71 dX4_ship_1 cl_4_90 mt_94 rfl (Nat.le_add_left _ _) rfl rfl rfl rfl hcs
theorem e71_4 : Rn X d 71 4 (some (.ref a) :: t) ST M h = Rn X d 71 5 (some (.ref a) :: t) (.ref a :: ST) M h := r_aload_n mt_71 dX4_ship_4 rfl
theorem e71_5 : Rn X d 71 5 LS (.ref a :: ST) M h = q_g X (M a) 4 0 d 71 8 LS ST M h := s_get mt_71 dX4_ship_5 f_4_10
theorem e71_8 : Rn X d 71 8 (l0 :: some (.int x) :: t) ST M h = Rn X d 71 9 (l0 :: some (.int x) :: t) (.int x :: ST) M h := r_iload_n mt_71 dX4_ship_8 rfl
theorem e71_9 (hcs : Nat.ble (j_cs ST) 8 = true) : Rn X (d + 1) 71 9 LS (.int x :: .ref a :: ST) M h = j_rc (M a) 2 (q_k X (Rn X d 34 0 [some (.ref a), some (.int x)] [] M (j_h0 h)) h (d + 1) 71 12 LS ST) := s_callV mt_71 dX4_ship_9 cl_4_95 mt_34 rfl rfl (Nat.le_add_left _ _) rfl rfl rfl rfl hcs
theorem e71_12 (ho : j_one l2 = true) : Rn X d 71 12 (l0 :: l1 :: l2 :: l3 :: t) (.ref a :: ST) M h = Rn X d 71 13 (l0 :: l1 :: l2 :: some (.ref a) :: t) ST M h := r_astore_n mt_71 dX4_ship_12 (by show 3 < _; simp only [List.length_cons]; omega) ho rfl
theorem e71_13 : Rn X d 71 13 (l0 :: l1 :: some (.int x) :: t) ST M h = Rn X d 71 14 (l0 :: l1 :: some (.int x) :: t) (.int x :: ST) M h := r_iload_n mt_71 dX4_ship_13 rfl
theorem e71_14_0 : Rn X d 71 14 LS (.int (zN 0) :: ST) M h = Rn X d 71 52 LS ST M h := s_tab (off := 38) mt_71 dX4_ship_14 (by decide) (by decide) (by decide +kernel) rfl
theorem e71_14_1 : Rn X d 71 14 LS (.int (zN 1) :: ST) M h = Rn X d 71 57 LS ST M h := s_tab (off := 43) mt_71 dX4_ship_14 (by decide) (by decide) (by decide +kernel) rfl
theorem e71_14_2 : Rn X d 71 14 LS (.int (zN 2) :: ST) M h = Rn X d 71 62 LS ST M h := s_tab (off := 48) mt_71 dX4_ship_14 (by decide) (by decide) (by decide +kernel) rfl
theorem e71_14_3 : Rn X d 71 14 LS (.int (zN 3) :: ST) M h = Rn X d 71 75 LS ST M h := s_tab (off := 61) mt_71 dX4_ship_14 (by decide) (by decide) (by decide +kernel) rfl
theorem e71_14_4 : Rn X d 71 14 LS (.int (zN 4) :: ST) M h = Rn X d 71 80 LS ST M h := s_tab (off := 66) mt_71 dX4_ship_14 (by decide) (by decide) (by decide +kernel) rfl
theorem e71_14_5 : Rn X d 71 14 LS (.int (zN 5) :: ST) M h = Rn X d 71 85 LS ST M h := s_tab (off := 71) mt_71 dX4_ship_14 (by decide) (by decide) (by decide +kernel) rfl
theorem e71_14_h {v : Nat} (h0 : v < 2147483648) (h1 : 5 < v) : Rn X d 71 14 LS (.int (zN v) :: ST) M h = Rn X d 71 90 LS ST M h := s_tabD mt_71 dX4_ship_14 rfl h0 (Or.inr (by omega))
theorem e71_14_m {v : Nat} (h0 : v < 2147483648) : Rn X d 71 14 LS (.int (zM v) :: ST) M h = Rn X d 71 90 LS ST M h := s_tabM mt_71 dX4_ship_14 rfl (by decide) h0
theorem e71_52 : Rn X d 71 52 (l0 :: l1 :: l2 :: some (.ref a) :: t) ST M h = Rn X d 71 53 (l0 :: l1 :: l2 :: some (.ref a) :: t) (.ref a :: ST) M h := r_aload_n mt_71 dX4_ship_52 rfl
theorem e71_53 : Rn X d 71 53 LS (.ref a :: ST) M h = q_g X (M a) 1 0 d 71 56 LS ST M h := s_get mt_71 dX4_ship_53 f_4_144
theorem e71_56 : Rn X d 71 56 LS ([.int x]) M h = some (.inl (some (.int x)), M, h) := r_iret mt_71 dX4_ship_56 rfl
theorem e71_57 : Rn X d 71 57 (l0 :: l1 :: l2 :: some (.ref a) :: t) ST M h = Rn X d 71 58 (l0 :: l1 :: l2 :: some (.ref a) :: t) (.ref a :: ST) M h := r_aload_n mt_71 dX4_ship_57 rfl
theorem e71_58 : Rn X d 71 58 LS (.ref a :: ST) M h = q_g X (M a) 1 1 d 71 61 LS ST M h := s_get mt_71 dX4_ship_58 f_4_147
theorem e71_61 : Rn X d 71 61 LS ([.int x]) M h = some (.inl (some (.int x)), M, h) := r_iret mt_71 dX4_ship_61 rfl
theorem e71_62 : Rn X d 71 62 (l0 :: l1 :: l2 :: some (.ref a) :: t) ST M h = Rn X d 71 63 (l0 :: l1 :: l2 :: some (.ref a) :: t) (.ref a :: ST) M h := r_aload_n mt_71 dX4_ship_62 rfl
theorem e71_63 : Rn X d 71 63 LS (.ref a :: ST) M h = q_g X (M a) 1 2 d 71 66 LS ST M h := s_get mt_71 dX4_ship_63 f_4_103
theorem e71_66 : Rn X d 71 66 LS (.int x :: ST) M h = q_eq X x (zN 0) d 71 73 69 LS ST M h := s_ifeq mt_71 dX4_ship_66 rfl
theorem e71_69 : Rn X d 71 69 LS ST M h = Rn X d 71 70 LS (.int (zN 1) :: ST) M h := r_iconst mt_71 dX4_ship_69 c_ic1
theorem e71_70 : Rn X d 71 70 LS ST M h = Rn X d 71 74 LS ST M h := r_goto mt_71 dX4_ship_70 rfl
theorem e71_73 : Rn X d 71 73 LS ST M h = Rn X d 71 74 LS (.int (zN 0) :: ST) M h := r_iconst mt_71 dX4_ship_73 c_ic0
theorem e71_74 : Rn X d 71 74 LS ([.int x]) M h = some (.inl (some (.int x)), M, h) := r_iret mt_71 dX4_ship_74 rfl
theorem e71_75 : Rn X d 71 75 (l0 :: l1 :: l2 :: some (.ref a) :: t) ST M h = Rn X d 71 76 (l0 :: l1 :: l2 :: some (.ref a) :: t) (.ref a :: ST) M h := r_aload_n mt_71 dX4_ship_75 rfl
theorem e71_76 (hcs : Nat.ble (j_cs ST) 8 = true) : Rn X (d + 1) 71 76 LS (.ref a :: ST) M h = j_rc (M a) 1 (q_k X (Rn X d 29 0 [some (.ref a), none, none] [] M (j_h0 h)) h (d + 1) 71 79 LS ST) := s_callV mt_71 dX4_ship_76 cl_4_150 mt_29 rfl rfl (Nat.le_add_left _ _) rfl rfl rfl rfl hcs
theorem e71_79 : Rn X d 71 79 LS ([.int x]) M h = some (.inl (some (.int x)), M, h) := r_iret mt_71 dX4_ship_79 rfl
theorem e71_80 : Rn X d 71 80 (l0 :: l1 :: l2 :: some (.ref a) :: t) ST M h = Rn X d 71 81 (l0 :: l1 :: l2 :: some (.ref a) :: t) (.ref a :: ST) M h := r_aload_n mt_71 dX4_ship_80 rfl
theorem e71_81 : Rn X d 71 81 LS (.ref a :: ST) M h = q_g X (M a) 1 3 d 71 84 LS ST M h := s_get mt_71 dX4_ship_81 f_4_153
theorem e71_84 : Rn X d 71 84 LS ([.int x]) M h = some (.inl (some (.int x)), M, h) := r_iret mt_71 dX4_ship_84 rfl
theorem e71_85 : Rn X d 71 85 (l0 :: l1 :: l2 :: some (.ref a) :: t) ST M h = Rn X d 71 86 (l0 :: l1 :: l2 :: some (.ref a) :: t) (.ref a :: ST) M h := r_aload_n mt_71 dX4_ship_85 rfl
theorem e71_86 : Rn X d 71 86 LS (.ref a :: ST) M h = q_g X (M a) 1 4 d 71 89 LS ST M h := s_get mt_71 dX4_ship_86 f_4_156
theorem e71_89 : Rn X d 71 89 LS ([.int x]) M h = some (.inl (some (.int x)), M, h) := r_iret mt_71 dX4_ship_89 rfl
theorem e71_90 : Rn X (d + 6) 71 90 LS [] M h = some (.inr "java/lang/IllegalArgumentException", M, j_thr h) := r_throw mt_71 dX4_ship_90 tl_4_35 rfl dX4_ship_93 dX4_ship_94 sr_4_159 dX4_ship_96 dX4_ship_99
theorem e72_0 : Rn X d 72 0 (l0 :: some (.int x) :: t) ST M h = Rn X d 72 1 (l0 :: some (.int x) :: t) (.int x :: ST) M h := r_iload_n mt_72 dX4_hold_0 rfl
theorem e72_1 (hcs : Nat.ble (j_cs ST) 8 = true) : Rn X (d + 1) 72 1 LS (.int x :: ST) M h = q_k X (Rn X d 94 0 [some (.int x)] [] M (j_h0 h)) h (d + 1) 72 4 LS ST := s_callS (Or.inl rfl) mt_72 dX4_hold_1 cl_4_90 mt_94 rfl (Nat.le_add_left _ _) rfl rfl rfl rfl hcs
theorem e72_4 : Rn X d 72 4 (l0 :: l1 :: some (.int x) :: t) ST M h = Rn X d 72 5 (l0 :: l1 :: some (.int x) :: t) (.int x :: ST) M h := r_iload_n mt_72 dX4_hold_4 rfl
theorem e72_5 (hcs : Nat.ble (j_cs ST) 8 = true) : Rn X (d + 1) 72 5 LS (.int x :: ST) M h = q_k X (Rn X d 93 0 [some (.int x)] [] M (j_h0 h)) h (d + 1) 72 8 LS ST := s_callS (Or.inl rfl) mt_72 dX4_hold_5 cl_4_161 mt_93 rfl (Nat.le_add_left _ _) rfl rfl rfl rfl hcs
theorem e72_8 : Rn X d 72 8 (some (.ref a) :: t) ST M h = Rn X d 72 9 (some (.ref a) :: t) (.ref a :: ST) M h := r_aload_n mt_72 dX4_hold_8 rfl
theorem e72_9 : Rn X d 72 9 LS (.ref a :: ST) M h = q_g X (M a) 4 0 d 72 12 LS ST M h := s_get mt_72 dX4_hold_9 f_4_10
theorem e72_12 : Rn X d 72 12 (l0 :: some (.int x) :: t) ST M h = Rn X d 72 13 (l0 :: some (.int x) :: t) (.int x :: ST) M h := r_iload_n mt_72 dX4_hold_12 rfl
theorem e72_13 (hcs : Nat.ble (j_cs ST) 8 = true) : Rn X (d + 1) 72 13 LS (.int x :: .ref a :: ST) M h = j_rc (M a) 2 (q_k X (Rn X d 34 0 [some (.ref a), some (.int x)] [] M (j_h0 h)) h (d + 1) 72 16 LS ST) := s_callV mt_72 dX4_hold_13 cl_4_95 mt_34 rfl rfl (Nat.le_add_left _ _) rfl rfl rfl rfl hcs
theorem e72_16 : Rn X d 72 16 LS (.ref a :: ST) M h = q_g X (M a) 1 5 d 72 19 LS ST M h := s_get mt_72 dX4_hold_16 f_4_164
theorem e72_19 : Rn X d 72 19 (l0 :: l1 :: some (.int x) :: t) ST M h = Rn X d 72 20 (l0 :: l1 :: some (.int x) :: t) (.int x :: ST) M h := r_iload_n mt_72 dX4_hold_19 rfl
theorem e72_20 : Rn X d 72 20 LS (.int x :: .ref a :: ST) M h = q_ld X (M a) a x d 72 21 LS ST M h := s_iald mt_72 dX4_hold_20
theorem e72_21 : Rn X d 72 21 LS ([.int x]) M h = some (.inl (some (.int x)), M, h) := r_iret mt_72 dX4_hold_21 rfl
theorem e73_0 : Rn X d 73 0 (l0 :: some (.int x) :: t) ST M h = Rn X d 73 1 (l0 :: some (.int x) :: t) (.int x :: ST) M h := r_iload_n mt_73 dX4_value_0 rfl
theorem e73_1_0 : Rn X d 73 1 LS (.int (zN 0) :: ST) M h = Rn X d 73 44 LS ST M h := s_tab (off := 43) mt_73 dX4_value_1 (by decide) (by decide) (by decide +kernel) rfl
theorem e73_1_1 : Rn X d 73 1 LS (.int (zN 1) :: ST) M h = Rn X d 73 55 LS ST M h := s_tab (off := 54) mt_73 dX4_value_1 (by decide) (by decide) (by decide +kernel) rfl
theorem e73_1_2 : Rn X d 73 1 LS (.int (zN 2) :: ST) M h = Rn X d 73 66 LS ST M h := s_tab (off := 65) mt_73 dX4_value_1 (by decide) (by decide) (by decide +kernel) rfl
theorem e73_1_3 : Rn X d 73 1 LS (.int (zN 3) :: ST) M h = Rn X d 73 77 LS ST M h := s_tab (off := 76) mt_73 dX4_value_1 (by decide) (by decide) (by decide +kernel) rfl
theorem e73_1_4 : Rn X d 73 1 LS (.int (zN 4) :: ST) M h = Rn X d 73 88 LS ST M h := s_tab (off := 87) mt_73 dX4_value_1 (by decide) (by decide) (by decide +kernel) rfl
theorem e73_1_5 : Rn X d 73 1 LS (.int (zN 5) :: ST) M h = Rn X d 73 99 LS ST M h := s_tab (off := 98) mt_73 dX4_value_1 (by decide) (by decide) (by decide +kernel) rfl
theorem e73_1_6 : Rn X d 73 1 LS (.int (zN 6) :: ST) M h = Rn X d 73 110 LS ST M h := s_tab (off := 109) mt_73 dX4_value_1 (by decide) (by decide) (by decide +kernel) rfl
theorem e73_1_h {v : Nat} (h0 : v < 2147483648) (h1 : 6 < v) : Rn X d 73 1 LS (.int (zN v) :: ST) M h = Rn X d 73 118 LS ST M h := s_tabD mt_73 dX4_value_1 rfl h0 (Or.inr (by omega))
theorem e73_1_m {v : Nat} (h0 : v < 2147483648) : Rn X d 73 1 LS (.int (zM v) :: ST) M h = Rn X d 73 118 LS ST M h := s_tabM mt_73 dX4_value_1 rfl (by decide) h0
theorem e73_44 : Rn X d 73 44 (some (.ref a) :: t) ST M h = Rn X d 73 45 (some (.ref a) :: t) (.ref a :: ST) M h := r_aload_n mt_73 dX4_value_44 rfl
theorem e73_45 : Rn X d 73 45 LS (.ref a :: ST) M h = q_g X (M a) 4 0 d 73 48 LS ST M h := s_get mt_73 dX4_value_45 f_4_10
theorem e73_48 : Rn X d 73 48 LS (.ref a :: ST) M h = q_g X (M a) 2 0 d 73 51 LS ST M h := s_get mt_73 dX4_value_48 f_4_45
theorem e73_51 : Rn X d 73 51 LS (.ref a :: ST) M h = q_g X (M a) 0 0 d 73 54 LS ST M h := s_get mt_73 dX4_value_51 f_4_167
theorem e73_54 : Rn X d 73 54 LS ([.int x]) M h = some (.inl (some (.int x)), M, h) := r_iret mt_73 dX4_value_54 rfl
theorem e73_55 : Rn X d 73 55 (some (.ref a) :: t) ST M h = Rn X d 73 56 (some (.ref a) :: t) (.ref a :: ST) M h := r_aload_n mt_73 dX4_value_55 rfl
theorem e73_56 : Rn X d 73 56 LS (.ref a :: ST) M h = q_g X (M a) 4 0 d 73 59 LS ST M h := s_get mt_73 dX4_value_56 f_4_10
theorem e73_59 : Rn X d 73 59 LS (.ref a :: ST) M h = q_g X (M a) 2 0 d 73 62 LS ST M h := s_get mt_73 dX4_value_59 f_4_45
theorem e73_62 : Rn X d 73 62 LS (.ref a :: ST) M h = q_g X (M a) 0 1 d 73 65 LS ST M h := s_get mt_73 dX4_value_62 f_4_170
theorem e73_65 : Rn X d 73 65 LS ([.int x]) M h = some (.inl (some (.int x)), M, h) := r_iret mt_73 dX4_value_65 rfl
theorem e73_66 : Rn X d 73 66 (some (.ref a) :: t) ST M h = Rn X d 73 67 (some (.ref a) :: t) (.ref a :: ST) M h := r_aload_n mt_73 dX4_value_66 rfl
theorem e73_67 : Rn X d 73 67 LS (.ref a :: ST) M h = q_g X (M a) 4 0 d 73 70 LS ST M h := s_get mt_73 dX4_value_67 f_4_10
theorem e73_70 : Rn X d 73 70 LS (.ref a :: ST) M h = q_g X (M a) 2 0 d 73 73 LS ST M h := s_get mt_73 dX4_value_70 f_4_45
theorem e73_73 : Rn X d 73 73 LS (.ref a :: ST) M h = q_g X (M a) 0 2 d 73 76 LS ST M h := s_get mt_73 dX4_value_73 f_4_173
theorem e73_76 : Rn X d 73 76 LS ([.int x]) M h = some (.inl (some (.int x)), M, h) := r_iret mt_73 dX4_value_76 rfl
theorem e73_77 : Rn X d 73 77 (some (.ref a) :: t) ST M h = Rn X d 73 78 (some (.ref a) :: t) (.ref a :: ST) M h := r_aload_n mt_73 dX4_value_77 rfl
theorem e73_78 : Rn X d 73 78 LS (.ref a :: ST) M h = q_g X (M a) 4 0 d 73 81 LS ST M h := s_get mt_73 dX4_value_78 f_4_10
theorem e73_81 : Rn X d 73 81 LS (.ref a :: ST) M h = q_g X (M a) 2 0 d 73 84 LS ST M h := s_get mt_73 dX4_value_81 f_4_45
theorem e73_84 (hcs : Nat.ble (j_cs ST) 8 = true) : Rn X (d + 1) 73 84 LS (.ref a :: ST) M h = j_rc (M a) 0 (q_k X (Rn X d 4 0 [some (.ref a)] [] M (j_h0 h)) h (d + 1) 73 87 LS ST) := s_callV mt_73 dX4_value_84 cl_4_49 mt_4 rfl rfl (Nat.le_add_left _ _) rfl rfl rfl rfl hcs
theorem e73_87 : Rn X d 73 87 LS ([.int x]) M h = some (.inl (some (.int x)), M, h) := r_iret mt_73 dX4_value_87 rfl
theorem e73_88 : Rn X d 73 88 (some (.ref a) :: t) ST M h = Rn X d 73 89 (some (.ref a) :: t) (.ref a :: ST) M h := r_aload_n mt_73 dX4_value_88 rfl
theorem e73_89 : Rn X d 73 89 LS (.ref a :: ST) M h = q_g X (M a) 4 0 d 73 92 LS ST M h := s_get mt_73 dX4_value_89 f_4_10
theorem e73_92 : Rn X d 73 92 LS (.ref a :: ST) M h = q_g X (M a) 2 0 d 73 95 LS ST M h := s_get mt_73 dX4_value_92 f_4_45
theorem e73_95 (hcs : Nat.ble (j_cs ST) 8 = true) : Rn X (d + 1) 73 95 LS (.ref a :: ST) M h = j_rc (M a) 0 (q_k X (Rn X d 16 0 [some (.ref a), none, none] [] M (j_h0 h)) h (d + 1) 73 98 LS ST) := s_callV mt_73 dX4_value_95 cl_4_176 mt_16 rfl rfl (Nat.le_add_left _ _) rfl rfl rfl rfl hcs
theorem e73_98 : Rn X d 73 98 LS ([.int x]) M h = some (.inl (some (.int x)), M, h) := r_iret mt_73 dX4_value_98 rfl
theorem e73_99 : Rn X d 73 99 (some (.ref a) :: t) ST M h = Rn X d 73 100 (some (.ref a) :: t) (.ref a :: ST) M h := r_aload_n mt_73 dX4_value_99 rfl
theorem e73_100 : Rn X d 73 100 LS (.ref a :: ST) M h = q_g X (M a) 4 0 d 73 103 LS ST M h := s_get mt_73 dX4_value_100 f_4_10
theorem e73_103 : Rn X d 73 103 LS (.ref a :: ST) M h = q_g X (M a) 2 0 d 73 106 LS ST M h := s_get mt_73 dX4_value_103 f_4_45
theorem e73_106 (hcs : Nat.ble (j_cs ST) 8 = true) : Rn X (d + 1) 73 106 LS (.ref a :: ST) M h = j_rc (M a) 0 (q_k X (Rn X d 17 0 [some (.ref a), none, none] [] M (j_h0 h)) h (d + 1) 73 109 LS ST) := s_callV mt_73 dX4_value_106 cl_4_179 mt_17 rfl rfl (Nat.le_add_left _ _) rfl rfl rfl rfl hcs
theorem e73_109 : Rn X d 73 109 LS ([.int x]) M h = some (.inl (some (.int x)), M, h) := r_iret mt_73 dX4_value_109 rfl
theorem e73_110 : Rn X d 73 110 (some (.ref a) :: t) ST M h = Rn X d 73 111 (some (.ref a) :: t) (.ref a :: ST) M h := r_aload_n mt_73 dX4_value_110 rfl
theorem e73_111 : Rn X d 73 111 LS (.ref a :: ST) M h = q_g X (M a) 4 0 d 73 114 LS ST M h := s_get mt_73 dX4_value_111 f_4_10
theorem e73_114 : Rn X d 73 114 LS (.ref a :: ST) M h = q_g X (M a) 2 3 d 73 117 LS ST M h := s_get mt_73 dX4_value_114 f_4_182
theorem e73_117 : Rn X d 73 117 LS ([.int x]) M h = some (.inl (some (.int x)), M, h) := r_iret mt_73 dX4_value_117 rfl
theorem e73_118 : Rn X (d + 6) 73 118 LS [] M h = some (.inr "java/lang/IllegalArgumentException", M, j_thr h) := r_throw mt_73 dX4_value_118 tl_4_35 rfl dX4_value_121 dX4_value_122 sr_4_185 dX4_value_124 dX4_value_127
theorem e74_0 : Rn X d 74 0 (l0 :: some (.int x) :: t) ST M h = Rn X d 74 1 (l0 :: some (.int x) :: t) (.int x :: ST) M h := r_iload_n mt_74 dX4_ahead_0 rfl
theorem e74_1 (hcs : Nat.ble (j_cs ST) 8 = true) : Rn X (d + 1) 74 1 LS (.int x :: ST) M h = q_k X (Rn X d 94 0 [some (.int x)] [] M (j_h0 h)) h (d + 1) 74 4 LS ST := s_callS (Or.inl rfl) mt_74 dX4_ahead_1 cl_4_90 mt_94 rfl (Nat.le_add_left _ _) rfl rfl rfl rfl hcs
theorem e74_4 : Rn X d 74 4 (some (.ref a) :: t) ST M h = Rn X d 74 5 (some (.ref a) :: t) (.ref a :: ST) M h := r_aload_n mt_74 dX4_ahead_4 rfl
theorem e74_5 : Rn X d 74 5 LS (.ref a :: ST) M h = q_g X (M a) 4 0 d 74 8 LS ST M h := s_get mt_74 dX4_ahead_5 f_4_10
theorem e74_8 : Rn X d 74 8 (l0 :: some (.int x) :: t) ST M h = Rn X d 74 9 (l0 :: some (.int x) :: t) (.int x :: ST) M h := r_iload_n mt_74 dX4_ahead_8 rfl
theorem e74_9 (hcs : Nat.ble (j_cs ST) 8 = true) : Rn X (d + 1) 74 9 LS (.int x :: .ref a :: ST) M h = j_rc (M a) 2 (q_k X (Rn X d 34 0 [some (.ref a), some (.int x)] [] M (j_h0 h)) h (d + 1) 74 12 LS ST) := s_callV mt_74 dX4_ahead_9 cl_4_95 mt_34 rfl rfl (Nat.le_add_left _ _) rfl rfl rfl rfl hcs
theorem e74_12 (ho : j_one l1 = true) : Rn X d 74 12 (l0 :: l1 :: l2 :: t) (.ref a :: ST) M h = Rn X d 74 13 (l0 :: l1 :: some (.ref a) :: t) ST M h := r_astore_n mt_74 dX4_ahead_12 (by show 2 < _; simp only [List.length_cons]; omega) ho rfl
theorem e74_13 : Rn X d 74 13 (l0 :: l1 :: some (.ref a) :: t) ST M h = Rn X d 74 14 (l0 :: l1 :: some (.ref a) :: t) (.ref a :: ST) M h := r_aload_n mt_74 dX4_ahead_13 rfl
theorem e74_14 : Rn X d 74 14 LS (.ref a :: ST) M h = q_g X (M a) 1 2 d 74 17 LS ST M h := s_get mt_74 dX4_ahead_14 f_4_103
theorem e74_17 : Rn X d 74 17 LS (.int x :: ST) M h = q_eq X x (zN 0) d 74 42 20 LS ST M h := s_ifeq mt_74 dX4_ahead_17 rfl
theorem e74_20 : Rn X d 74 20 (some (.ref a) :: t) ST M h = Rn X d 74 21 (some (.ref a) :: t) (.ref a :: ST) M h := r_aload_n mt_74 dX4_ahead_20 rfl
theorem e74_21 : Rn X d 74 21 LS (.ref a :: ST) M h = q_g X (M a) 4 0 d 74 24 LS ST M h := s_get mt_74 dX4_ahead_21 f_4_10
theorem e74_24 : Rn X d 74 24 LS (.ref a :: ST) M h = q_g X (M a) 2 0 d 74 27 LS ST M h := s_get mt_74 dX4_ahead_24 f_4_45
theorem e74_27 : Rn X d 74 27 (l0 :: l1 :: some (.ref a) :: t) ST M h = Rn X d 74 28 (l0 :: l1 :: some (.ref a) :: t) (.ref a :: ST) M h := r_aload_n mt_74 dX4_ahead_27 rfl
theorem e74_28 : Rn X d 74 28 LS (.ref a :: ST) M h = q_g X (M a) 1 0 d 74 31 LS ST M h := s_get mt_74 dX4_ahead_28 f_4_144
theorem e74_31 (hcs : Nat.ble (j_cs ST) 8 = true) : Rn X (d + 1) 74 31 LS (.int x :: .ref a :: ST) M h = j_rc (M a) 0 (q_k X (Rn X d 18 0 [some (.ref a), some (.int x), none] [] M (j_h0 h)) h (d + 1) 74 34 LS ST) := s_callV mt_74 dX4_ahead_31 cl_4_187 mt_18 rfl rfl (Nat.le_add_left _ _) rfl rfl rfl rfl hcs
theorem e74_34 : Rn X d 74 34 (l0 :: l1 :: some (.ref a) :: t) ST M h = Rn X d 74 35 (l0 :: l1 :: some (.ref a) :: t) (.ref a :: ST) M h := r_aload_n mt_74 dX4_ahead_34 rfl
theorem e74_35 : Rn X d 74 35 LS (.ref a :: ST) M h = q_g X (M a) 1 0 d 74 38 LS ST M h := s_get mt_74 dX4_ahead_35 f_4_144
theorem e74_38 : Rn X d 74 38 LS (.int y :: .int x :: ST) M h = Rn X d 74 39 LS (.int (x - y) :: ST) M h := r_isub mt_74 dX4_ahead_38
theorem e74_39 : Rn X d 74 39 LS ST M h = Rn X d 74 43 LS ST M h := r_goto mt_74 dX4_ahead_39 rfl
theorem e74_42 : Rn X d 74 42 LS ST M h = Rn X d 74 43 LS (.int (zN 0) :: ST) M h := r_iconst mt_74 dX4_ahead_42 c_ic0
theorem e74_43 : Rn X d 74 43 LS ([.int x]) M h = some (.inl (some (.int x)), M, h) := r_iret mt_74 dX4_ahead_43 rfl
theorem e75_0 : Rn X d 75 0 (l0 :: some (.int x) :: t) ST M h = Rn X d 75 1 (l0 :: some (.int x) :: t) (.int x :: ST) M h := r_iload_n mt_75 dX4_stop_0 rfl
theorem e75_1 (hcs : Nat.ble (j_cs ST) 8 = true) : Rn X (d + 1) 75 1 LS (.int x :: ST) M h = q_k X (Rn X d 94 0 [some (.int x)] [] M (j_h0 h)) h (d + 1) 75 4 LS ST := s_callS (Or.inl rfl) mt_75 dX4_stop_1 cl_4_90 mt_94 rfl (Nat.le_add_left _ _) rfl rfl rfl rfl hcs
theorem e75_4 : Rn X d 75 4 (some (.ref a) :: t) ST M h = Rn X d 75 5 (some (.ref a) :: t) (.ref a :: ST) M h := r_aload_n mt_75 dX4_stop_4 rfl
theorem e75_5 : Rn X d 75 5 LS (.ref a :: ST) M h = q_g X (M a) 4 0 d 75 8 LS ST M h := s_get mt_75 dX4_stop_5 f_4_10
theorem e75_8 : Rn X d 75 8 LS (.ref a :: ST) M h = q_g X (M a) 2 0 d 75 11 LS ST M h := s_get mt_75 dX4_stop_8 f_4_45
theorem e75_11 : Rn X d 75 11 (some (.ref a) :: t) ST M h = Rn X d 75 12 (some (.ref a) :: t) (.ref a :: ST) M h := r_aload_n mt_75 dX4_stop_11 rfl
theorem e75_12 : Rn X d 75 12 LS (.ref a :: ST) M h = q_g X (M a) 4 0 d 75 15 LS ST M h := s_get mt_75 dX4_stop_12 f_4_10
theorem e75_15 : Rn X d 75 15 (l0 :: some (.int x) :: t) ST M h = Rn X d 75 16 (l0 :: some (.int x) :: t) (.int x :: ST) M h := r_iload_n mt_75 dX4_stop_15 rfl
theorem e75_16 (hcs : Nat.ble (j_cs ST) 8 = true) : Rn X (d + 1) 75 16 LS (.int x :: .ref a :: ST) M h = j_rc (M a) 2 (q_k X (Rn X d 34 0 [some (.ref a), some (.int x)] [] M (j_h0 h)) h (d + 1) 75 19 LS ST) := s_callV mt_75 dX4_stop_16 cl_4_95 mt_34 rfl rfl (Nat.le_add_left _ _) rfl rfl rfl rfl hcs
theorem e75_19 : Rn X d 75 19 LS (.ref a :: ST) M h = q_g X (M a) 1 0 d 75 22 LS ST M h := s_get mt_75 dX4_stop_19 f_4_144
theorem e75_22 (hcs : Nat.ble (j_cs ST) 8 = true) : Rn X (d + 1) 75 22 LS (.int x :: .ref a :: ST) M h = j_rc (M a) 0 (q_k X (Rn X d 18 0 [some (.ref a), some (.int x), none] [] M (j_h0 h)) h (d + 1) 75 25 LS ST) := s_callV mt_75 dX4_stop_22 cl_4_187 mt_18 rfl rfl (Nat.le_add_left _ _) rfl rfl rfl rfl hcs
theorem e75_25 : Rn X d 75 25 LS ([.int x]) M h = some (.inl (some (.int x)), M, h) := r_iret mt_75 dX4_stop_25 rfl
theorem e76_0 : Rn X d 76 0 (l0 :: l1 :: some (.int x) :: t) ST M h = Rn X d 76 1 (l0 :: l1 :: some (.int x) :: t) (.int x :: ST) M h := r_iload_n mt_76 dX4_tonsAt_0 rfl
theorem e76_1 (hcs : Nat.ble (j_cs ST) 8 = true) : Rn X (d + 1) 76 1 LS (.int x :: ST) M h = q_k X (Rn X d 93 0 [some (.int x)] [] M (j_h0 h)) h (d + 1) 76 4 LS ST := s_callS (Or.inl rfl) mt_76 dX4_tonsAt_1 cl_4_161 mt_93 rfl (Nat.le_add_left _ _) rfl rfl rfl rfl hcs
theorem e76_4 : Rn X d 76 4 (some (.ref a) :: t) ST M h = Rn X d 76 5 (some (.ref a) :: t) (.ref a :: ST) M h := r_aload_n mt_76 dX4_tonsAt_4 rfl
theorem e76_5 : Rn X d 76 5 LS (.ref a :: ST) M h = q_g X (M a) 4 0 d 76 8 LS ST M h := s_get mt_76 dX4_tonsAt_5 f_4_10
theorem e76_8 (hcs : Nat.ble (j_cs ST) 8 = true) : Rn X (d + 1) 76 8 LS (.ref a :: ST) M h = j_rc (M a) 2 (q_k X (Rn X d 37 0 [some (.ref a)] [] M (j_h0 h)) h (d + 1) 76 11 LS ST) := s_callV mt_76 dX4_tonsAt_8 cl_4_190 mt_37 rfl rfl (Nat.le_add_left _ _) rfl rfl rfl rfl hcs
theorem e76_11 (ho : j_one l2 = true) : Rn X d 76 11 (l0 :: l1 :: l2 :: l3 :: t) (.ref a :: ST) M h = Rn X d 76 12 (l0 :: l1 :: l2 :: some (.ref a) :: t) ST M h := r_astore_n mt_76 dX4_tonsAt_11 (by show 3 < _; simp only [List.length_cons]; omega) ho rfl
theorem e76_12 : Rn X d 76 12 (l0 :: some (.int x) :: t) ST M h = Rn X d 76 13 (l0 :: some (.int x) :: t) (.int x :: ST) M h := r_iload_n mt_76 dX4_tonsAt_12 rfl
theorem e76_13 : Rn X d 76 13 (l0 :: l1 :: l2 :: some (.ref a) :: t) ST M h = Rn X d 76 14 (l0 :: l1 :: l2 :: some (.ref a) :: t) (.ref a :: ST) M h := r_aload_n mt_76 dX4_tonsAt_13 rfl
theorem e76_14 : Rn X d 76 14 LS (.ref a :: ST) M h = q_g X (M a) 1 1 d 76 17 LS ST M h := s_get mt_76 dX4_tonsAt_14 f_4_147
theorem e76_17 : Rn X d 76 17 LS (.int y :: .int x :: ST) M h = q_lt X x y d 76 34 20 LS ST M h := s_iclt mt_76 dX4_tonsAt_17 rfl
theorem e76_20 : Rn X d 76 20 (l0 :: some (.int x) :: t) ST M h = Rn X d 76 21 (l0 :: some (.int x) :: t) (.int x :: ST) M h := r_iload_n mt_76 dX4_tonsAt_20 rfl
theorem e76_21 : Rn X d 76 21 (some (.ref a) :: t) ST M h = Rn X d 76 22 (some (.ref a) :: t) (.ref a :: ST) M h := r_aload_n mt_76 dX4_tonsAt_21 rfl
theorem e76_22 : Rn X d 76 22 LS (.ref a :: ST) M h = q_g X (M a) 4 0 d 76 25 LS ST M h := s_get mt_76 dX4_tonsAt_22 f_4_10
theorem e76_25 : Rn X d 76 25 LS (.ref a :: ST) M h = q_g X (M a) 2 0 d 76 28 LS ST M h := s_get mt_76 dX4_tonsAt_25 f_4_45
theorem e76_28 : Rn X d 76 28 LS (.ref a :: ST) M h = q_g X (M a) 0 2 d 76 31 LS ST M h := s_get mt_76 dX4_tonsAt_28 f_4_173
theorem e76_31 : Rn X d 76 31 LS (.int y :: .int x :: ST) M h = q_le X x y d 76 36 34 LS ST M h := s_icle mt_76 dX4_tonsAt_31 rfl
theorem e76_34 : Rn X d 76 34 LS ST M h = Rn X d 76 35 LS (.int (zM 0) :: ST) M h := r_iconst mt_76 dX4_tonsAt_34 c_icm1
theorem e76_35 : Rn X d 76 35 LS ([.int x]) M h = some (.inl (some (.int x)), M, h) := r_iret mt_76 dX4_tonsAt_35 rfl
theorem e76_36 : Rn X d 76 36 (l0 :: l1 :: l2 :: some (.ref a) :: t) ST M h = Rn X d 76 37 (l0 :: l1 :: l2 :: some (.ref a) :: t) (.ref a :: ST) M h := r_aload_n mt_76 dX4_tonsAt_36 rfl
theorem e76_37 : Rn X d 76 37 LS (.ref a :: ST) M h = q_g X (M a) 1 6 d 76 40 LS ST M h := s_get mt_76 dX4_tonsAt_37 f_4_194
theorem e76_40 : Rn X d 76 40 LS ST M h = Rn X d 76 41 LS (.int (zN 0) :: ST) M h := r_iconst mt_76 dX4_tonsAt_40 c_ic0
theorem e76_41 : Rn X d 76 41 (some (.ref a) :: t) ST M h = Rn X d 76 42 (some (.ref a) :: t) (.ref a :: ST) M h := r_aload_n mt_76 dX4_tonsAt_41 rfl
theorem e76_42 : Rn X d 76 42 LS (.ref a :: ST) M h = q_g X (M a) 4 4 d 76 45 LS ST M h := s_get mt_76 dX4_tonsAt_42 f_4_31
theorem e76_45 : Rn X d 76 45 LS ST M h = Rn X d 76 46 LS (.int (zN 0) :: ST) M h := r_iconst mt_76 dX4_tonsAt_45 c_ic0
theorem e76_46 : Rn X d 76 46 LS ST M h = Rn X d 76 48 LS (.int (zN 8) :: ST) M h := r_bipush mt_76 dX4_tonsAt_46 c_bi8
theorem e76_48 : Rn X (d + 1) 76 48 LS ([.int z, .int y, .ref b, .int x, .ref a]) M h = q_cp X (M a) (M b) b x y z (d + 1) 76 51 LS M h := s_cpy mt_76 dX4_tonsAt_48 cl_4_197
theorem e76_51 : Rn X d 76 51 (some (.ref a) :: t) ST M h = Rn X d 76 52 (some (.ref a) :: t) (.ref a :: ST) M h := r_aload_n mt_76 dX4_tonsAt_51 rfl
theorem e76_52 : Rn X d 76 52 LS (.ref a :: ST) M h = q_g X (M a) 4 0 d 76 55 LS ST M h := s_get mt_76 dX4_tonsAt_52 f_4_10
theorem e76_55 : Rn X d 76 55 LS (.ref a :: ST) M h = q_g X (M a) 2 0 d 76 58 LS ST M h := s_get mt_76 dX4_tonsAt_55 f_4_45
theorem e76_58 : Rn X d 76 58 (some (.ref a) :: t) ST M h = Rn X d 76 59 (some (.ref a) :: t) (.ref a :: ST) M h := r_aload_n mt_76 dX4_tonsAt_58 rfl
theorem e76_59 : Rn X d 76 59 LS (.ref a :: ST) M h = q_g X (M a) 4 4 d 76 62 LS ST M h := s_get mt_76 dX4_tonsAt_59 f_4_31
theorem e76_62 : Rn X d 76 62 (l0 :: l1 :: l2 :: some (.ref a) :: t) ST M h = Rn X d 76 63 (l0 :: l1 :: l2 :: some (.ref a) :: t) (.ref a :: ST) M h := r_aload_n mt_76 dX4_tonsAt_62 rfl
theorem e76_63 : Rn X d 76 63 LS (.ref a :: ST) M h = q_g X (M a) 1 1 d 76 66 LS ST M h := s_get mt_76 dX4_tonsAt_63 f_4_147
theorem e76_66 : Rn X d 76 66 (l0 :: some (.int x) :: t) ST M h = Rn X d 76 67 (l0 :: some (.int x) :: t) (.int x :: ST) M h := r_iload_n mt_76 dX4_tonsAt_66 rfl
theorem e76_67 (hcs : Nat.ble (j_cs ST) 8 = true) : Rn X (d + 1) 76 67 LS (.int y :: .int x :: .ref b :: .ref a :: ST) M h = j_rc (M a) 0 (q_k X (Rn X d 19 0 [some (.ref a), some (.ref b), some (.int x), some (.int y), none] [] M (j_h0 h)) h (d + 1) 76 70 LS ST) := s_callV mt_76 dX4_tonsAt_67 cl_4_203 mt_19 rfl rfl (Nat.le_add_left _ _) rfl rfl rfl rfl hcs
theorem e76_70 (ho : j_one l3 = true) : Rn X d 76 70 (l0 :: l1 :: l2 :: l3 :: l4 :: t) (.int x :: ST) M h = Rn X d 76 72 (l0 :: l1 :: l2 :: l3 :: some (.int x) :: t) ST M h := r_istore mt_76 dX4_tonsAt_70 (by show 4 < _; simp only [List.length_cons]; omega) ho rfl
theorem e76_72 : Rn X d 76 72 (l0 :: l1 :: l2 :: l3 :: some (.int x) :: t) ST M h = Rn X d 76 74 (l0 :: l1 :: l2 :: l3 :: some (.int x) :: t) (.int x :: ST) M h := r_iload mt_76 dX4_tonsAt_72 rfl
theorem e76_74 : Rn X d 76 74 LS (.int x :: ST) M h = q_eq X x (zN 0) d 76 86 77 LS ST M h := s_ifeq mt_76 dX4_tonsAt_74 rfl
theorem e76_77 : Rn X d 76 77 (some (.ref a) :: t) ST M h = Rn X d 76 78 (some (.ref a) :: t) (.ref a :: ST) M h := r_aload_n mt_76 dX4_tonsAt_77 rfl
theorem e76_78 : Rn X d 76 78 LS (.ref a :: ST) M h = q_g X (M a) 4 4 d 76 81 LS ST M h := s_get mt_76 dX4_tonsAt_78 f_4_31
theorem e76_81 : Rn X d 76 81 (l0 :: l1 :: some (.int x) :: t) ST M h = Rn X d 76 82 (l0 :: l1 :: some (.int x) :: t) (.int x :: ST) M h := r_iload_n mt_76 dX4_tonsAt_81 rfl
theorem e76_82 : Rn X d 76 82 LS (.int x :: .ref a :: ST) M h = q_ld X (M a) a x d 76 83 LS ST M h := s_iald mt_76 dX4_tonsAt_82
theorem e76_83 : Rn X d 76 83 LS ST M h = Rn X d 76 87 LS ST M h := r_goto mt_76 dX4_tonsAt_83 rfl
theorem e76_86 : Rn X d 76 86 LS ST M h = Rn X d 76 87 LS (.int (zM 0) :: ST) M h := r_iconst mt_76 dX4_tonsAt_86 c_icm1
theorem e76_87 : Rn X d 76 87 LS ([.int x]) M h = some (.inl (some (.int x)), M, h) := r_iret mt_76 dX4_tonsAt_87 rfl
theorem e77_0 : Rn X d 77 0 (some (.ref a) :: t) ST M h = Rn X d 77 1 (some (.ref a) :: t) (.ref a :: ST) M h := r_aload_n mt_77 dX4_agree_0 rfl
theorem e77_1 : Rn X d 77 1 LS (.ref a :: ST) M h = q_g X (M a) 4 0 d 77 4 LS ST M h := s_get mt_77 dX4_agree_1 f_4_10
theorem e77_4 (hcs : Nat.ble (j_cs ST) 8 = true) : Rn X (d + 1) 77 4 LS (.ref a :: ST) M h = j_rc (M a) 2 (q_k X (Rn X d 36 0 [some (.ref a)] [] M (j_h0 h)) h (d + 1) 77 7 LS ST) := s_callV mt_77 dX4_agree_4 cl_4_207 mt_36 rfl rfl (Nat.le_add_left _ _) rfl rfl rfl rfl hcs
theorem e77_7 (ho : j_one l0 = true) : Rn X d 77 7 (l0 :: l1 :: t) (.ref a :: ST) M h = Rn X d 77 8 (l0 :: some (.ref a) :: t) ST M h := r_astore_n mt_77 dX4_agree_7 (by show 1 < _; simp only [List.length_cons]; omega) ho rfl
theorem e77_8 : Rn X d 77 8 (some (.ref a) :: t) ST M h = Rn X d 77 9 (some (.ref a) :: t) (.ref a :: ST) M h := r_aload_n mt_77 dX4_agree_8 rfl
theorem e77_9 : Rn X d 77 9 LS (.ref a :: ST) M h = q_g X (M a) 4 0 d 77 12 LS ST M h := s_get mt_77 dX4_agree_9 f_4_10
theorem e77_12 : Rn X d 77 12 (l0 :: some (.ref a) :: t) ST M h = Rn X d 77 13 (l0 :: some (.ref a) :: t) (.ref a :: ST) M h := r_aload_n mt_77 dX4_agree_12 rfl
theorem e77_13 (hcs : Nat.ble (j_cs ST) 8 = true) : Rn X (d + 1) 77 13 LS (.ref b :: .ref a :: ST) M h = j_rc (M a) 2 (q_k X (Rn X d 35 0 [some (.ref a), some (.ref b)] [] M (j_h0 h)) h (d + 1) 77 16 LS ST) := s_callV mt_77 dX4_agree_13 cl_4_210 mt_35 rfl rfl (Nat.le_add_left _ _) rfl rfl rfl rfl hcs
theorem e77_16 (ho : j_one l1 = true) : Rn X d 77 16 (l0 :: l1 :: l2 :: t) (.ref a :: ST) M h = Rn X d 77 17 (l0 :: l1 :: some (.ref a) :: t) ST M h := r_astore_n mt_77 dX4_agree_16 (by show 2 < _; simp only [List.length_cons]; omega) ho rfl
theorem e77_17 : Rn X d 77 17 (l0 :: some (.ref a) :: t) ST M h = Rn X d 77 18 (l0 :: some (.ref a) :: t) (.ref a :: ST) M h := r_aload_n mt_77 dX4_agree_17 rfl
theorem e77_18 : Rn X d 77 18 LS (.ref a :: ST) M h = q_g X (M a) 1 5 d 77 21 LS ST M h := s_get mt_77 dX4_agree_18 f_4_164
theorem e77_21 : Rn X d 77 21 LS ST M h = Rn X d 77 22 LS (.int (zN 0) :: ST) M h := r_iconst mt_77 dX4_agree_21 c_ic0
theorem e77_22 : Rn X d 77 22 (some (.ref a) :: t) ST M h = Rn X d 77 23 (some (.ref a) :: t) (.ref a :: ST) M h := r_aload_n mt_77 dX4_agree_22 rfl
theorem e77_23 : Rn X d 77 23 LS (.ref a :: ST) M h = q_g X (M a) 4 4 d 77 26 LS ST M h := s_get mt_77 dX4_agree_23 f_4_31
theorem e77_26 : Rn X d 77 26 LS ST M h = Rn X d 77 27 LS (.int (zN 0) :: ST) M h := r_iconst mt_77 dX4_agree_26 c_ic0
theorem e77_27 : Rn X d 77 27 LS ST M h = Rn X d 77 29 LS (.int (zN 8) :: ST) M h := r_bipush mt_77 dX4_agree_27 c_bi8
theorem e77_29 : Rn X (d + 1) 77 29 LS ([.int z, .int y, .ref b, .int x, .ref a]) M h = q_cp X (M a) (M b) b x y z (d + 1) 77 32 LS M h := s_cpy mt_77 dX4_agree_29 cl_4_197
theorem e77_32 : Rn X d 77 32 (some (.ref a) :: t) ST M h = Rn X d 77 33 (some (.ref a) :: t) (.ref a :: ST) M h := r_aload_n mt_77 dX4_agree_32 rfl
theorem e77_33 : Rn X d 77 33 LS (.ref a :: ST) M h = q_g X (M a) 4 0 d 77 36 LS ST M h := s_get mt_77 dX4_agree_33 f_4_10
theorem e77_36 : Rn X d 77 36 LS (.ref a :: ST) M h = q_g X (M a) 2 0 d 77 39 LS ST M h := s_get mt_77 dX4_agree_36 f_4_45
theorem e77_39 : Rn X d 77 39 (some (.ref a) :: t) ST M h = Rn X d 77 40 (some (.ref a) :: t) (.ref a :: ST) M h := r_aload_n mt_77 dX4_agree_39 rfl
theorem e77_40 : Rn X d 77 40 LS (.ref a :: ST) M h = q_g X (M a) 4 4 d 77 43 LS ST M h := s_get mt_77 dX4_agree_40 f_4_31
theorem e77_43 : Rn X d 77 43 (l0 :: some (.ref a) :: t) ST M h = Rn X d 77 44 (l0 :: some (.ref a) :: t) (.ref a :: ST) M h := r_aload_n mt_77 dX4_agree_43 rfl
theorem e77_44 : Rn X d 77 44 LS (.ref a :: ST) M h = q_g X (M a) 1 0 d 77 47 LS ST M h := s_get mt_77 dX4_agree_44 f_4_144
theorem e77_47 : Rn X d 77 47 (l0 :: l1 :: some (.ref a) :: t) ST M h = Rn X d 77 48 (l0 :: l1 :: some (.ref a) :: t) (.ref a :: ST) M h := r_aload_n mt_77 dX4_agree_47 rfl
theorem e77_48 : Rn X d 77 48 LS (.ref a :: ST) M h = q_g X (M a) 1 0 d 77 51 LS ST M h := s_get mt_77 dX4_agree_48 f_4_144
theorem e77_51 (hcs : Nat.ble (j_cs ST) 8 = true) : Rn X (d + 1) 77 51 LS (.int y :: .int x :: .ref b :: .ref a :: ST) M h = j_rc (M a) 0 (q_k X (Rn X d 19 0 [some (.ref a), some (.ref b), some (.int x), some (.int y), none] [] M (j_h0 h)) h (d + 1) 77 54 LS ST) := s_callV mt_77 dX4_agree_51 cl_4_203 mt_19 rfl rfl (Nat.le_add_left _ _) rfl rfl rfl rfl hcs
theorem e77_54 : Rn X d 77 54 LS (.int x :: ST) M h = q_eq X x (zN 0) d 77 57 59 LS ST M h := s_ifne mt_77 dX4_agree_54 rfl
theorem e77_57 : Rn X d 77 57 LS ST M h = Rn X d 77 58 LS (.int (zM 0) :: ST) M h := r_iconst mt_77 dX4_agree_57 c_icm1
theorem e77_58 : Rn X d 77 58 LS ([.int x]) M h = some (.inl (some (.int x)), M, h) := r_iret mt_77 dX4_agree_58 rfl
theorem e77_59 : Rn X d 77 59 (l0 :: l1 :: some (.ref a) :: t) ST M h = Rn X d 77 60 (l0 :: l1 :: some (.ref a) :: t) (.ref a :: ST) M h := r_aload_n mt_77 dX4_agree_59 rfl
theorem e77_60 : Rn X d 77 60 (some (.ref a) :: t) ST M h = Rn X d 77 61 (some (.ref a) :: t) (.ref a :: ST) M h := r_aload_n mt_77 dX4_agree_60 rfl
theorem e77_61 : Rn X d 77 61 LS (.ref a :: ST) M h = q_g X (M a) 4 4 d 77 64 LS ST M h := s_get mt_77 dX4_agree_61 f_4_31
theorem e77_64 (hcs : Nat.ble (j_cs ST) 8 = true) : Rn X (d + 1) 77 64 LS (.ref b :: .ref a :: ST) M h = j_rc (M a) 1 (q_k X (Rn X d 30 0 [some (.ref a), some (.ref b), none] [] M (j_h0 h)) h (d + 1) 77 67 LS ST) := s_callV mt_77 dX4_agree_64 cl_4_214 mt_30 rfl rfl (Nat.le_add_left _ _) rfl rfl rfl rfl hcs
theorem e77_67 : Rn X d 77 67 LS (.int x :: ST) M h = q_eq X x (zN 0) d 77 74 70 LS ST M h := s_ifeq mt_77 dX4_agree_67 rfl
theorem e77_70 : Rn X d 77 70 LS ST M h = Rn X d 77 71 LS (.int (zN 1) :: ST) M h := r_iconst mt_77 dX4_agree_70 c_ic1
theorem e77_71 : Rn X d 77 71 LS ST M h = Rn X d 77 75 LS ST M h := r_goto mt_77 dX4_agree_71 rfl
theorem e77_74 : Rn X d 77 74 LS ST M h = Rn X d 77 75 LS (.int (zN 0) :: ST) M h := r_iconst mt_77 dX4_agree_74 c_ic0
theorem e77_75 : Rn X d 77 75 LS ([.int x]) M h = some (.inl (some (.int x)), M, h) := r_iret mt_77 dX4_agree_75 rfl
theorem e78_0 : Rn X d 78 0 (l0 :: some (.int x) :: t) ST M h = Rn X d 78 1 (l0 :: some (.int x) :: t) (.int x :: ST) M h := r_iload_n mt_78 dX4_roomBy_0 rfl
theorem e78_1 (hcs : Nat.ble (j_cs ST) 8 = true) : Rn X (d + 1) 78 1 LS (.int x :: ST) M h = q_k X (Rn X d 94 0 [some (.int x)] [] M (j_h0 h)) h (d + 1) 78 4 LS ST := s_callS (Or.inl rfl) mt_78 dX4_roomBy_1 cl_4_90 mt_94 rfl (Nat.le_add_left _ _) rfl rfl rfl rfl hcs
theorem e78_4 : Rn X d 78 4 (some (.ref a) :: t) ST M h = Rn X d 78 5 (some (.ref a) :: t) (.ref a :: ST) M h := r_aload_n mt_78 dX4_roomBy_4 rfl
theorem e78_5 : Rn X d 78 5 LS (.ref a :: ST) M h = q_g X (M a) 4 0 d 78 8 LS ST M h := s_get mt_78 dX4_roomBy_5 f_4_10
theorem e78_8 : Rn X d 78 8 (l0 :: some (.int x) :: t) ST M h = Rn X d 78 9 (l0 :: some (.int x) :: t) (.int x :: ST) M h := r_iload_n mt_78 dX4_roomBy_8 rfl
theorem e78_9 (hcs : Nat.ble (j_cs ST) 8 = true) : Rn X (d + 1) 78 9 LS (.int x :: .ref a :: ST) M h = j_rc (M a) 2 (q_k X (Rn X d 34 0 [some (.ref a), some (.int x)] [] M (j_h0 h)) h (d + 1) 78 12 LS ST) := s_callV mt_78 dX4_roomBy_9 cl_4_95 mt_34 rfl rfl (Nat.le_add_left _ _) rfl rfl rfl rfl hcs
theorem e78_12 (ho : j_one l1 = true) : Rn X d 78 12 (l0 :: l1 :: l2 :: t) (.ref a :: ST) M h = Rn X d 78 13 (l0 :: l1 :: some (.ref a) :: t) ST M h := r_astore_n mt_78 dX4_roomBy_12 (by show 2 < _; simp only [List.length_cons]; omega) ho rfl
theorem e78_13 : Rn X d 78 13 (l0 :: l1 :: some (.ref a) :: t) ST M h = Rn X d 78 14 (l0 :: l1 :: some (.ref a) :: t) (.ref a :: ST) M h := r_aload_n mt_78 dX4_roomBy_13 rfl
theorem e78_14 : Rn X d 78 14 LS (.ref a :: ST) M h = q_g X (M a) 1 0 d 78 17 LS ST M h := s_get mt_78 dX4_roomBy_14 f_4_144
theorem e78_17 : Rn X d 78 17 (some (.ref a) :: t) ST M h = Rn X d 78 18 (some (.ref a) :: t) (.ref a :: ST) M h := r_aload_n mt_78 dX4_roomBy_17 rfl
theorem e78_18 : Rn X d 78 18 LS (.ref a :: ST) M h = q_g X (M a) 4 0 d 78 21 LS ST M h := s_get mt_78 dX4_roomBy_18 f_4_10
theorem e78_21 : Rn X d 78 21 (l0 :: l1 :: some (.ref a) :: t) ST M h = Rn X d 78 22 (l0 :: l1 :: some (.ref a) :: t) (.ref a :: ST) M h := r_aload_n mt_78 dX4_roomBy_21 rfl
theorem e78_22 (hcs : Nat.ble (j_cs ST) 8 = true) : Rn X (d + 1) 78 22 LS (.ref b :: .ref a :: ST) M h = j_rc (M a) 2 (q_k X (Rn X d 35 0 [some (.ref a), some (.ref b)] [] M (j_h0 h)) h (d + 1) 78 25 LS ST) := s_callV mt_78 dX4_roomBy_22 cl_4_210 mt_35 rfl rfl (Nat.le_add_left _ _) rfl rfl rfl rfl hcs
theorem e78_25 : Rn X d 78 25 LS (.ref a :: ST) M h = q_g X (M a) 1 1 d 78 28 LS ST M h := s_get mt_78 dX4_roomBy_25 f_4_147
theorem e78_28 {v w : Nat} (h0 : v < 2147483648) (h1 : w < 2147483648) (hcs : Nat.ble (j_cs ST) 8 = true) : Rn X (d + 1) 78 28 LS (.int (zN w) :: .int (zN v) :: ST) M h = Rn X (d + 1) 78 31 LS (.int (zN (min v w)) :: ST) M h := s_min mt_78 dX4_roomBy_28 cl_4_218 h0 h1 hcs
theorem e78_31 (ho : j_one l2 = true) : Rn X d 78 31 (l0 :: l1 :: l2 :: l3 :: t) (.int x :: ST) M h = Rn X d 78 32 (l0 :: l1 :: l2 :: some (.int x) :: t) ST M h := r_istore_n mt_78 dX4_roomBy_31 (by show 3 < _; simp only [List.length_cons]; omega) ho rfl
theorem e78_32 : Rn X d 78 32 (some (.ref a) :: t) ST M h = Rn X d 78 33 (some (.ref a) :: t) (.ref a :: ST) M h := r_aload_n mt_78 dX4_roomBy_32 rfl
theorem e78_33 : Rn X d 78 33 LS (.ref a :: ST) M h = q_g X (M a) 4 0 d 78 36 LS ST M h := s_get mt_78 dX4_roomBy_33 f_4_10
theorem e78_36 : Rn X d 78 36 LS (.ref a :: ST) M h = q_g X (M a) 2 0 d 78 39 LS ST M h := s_get mt_78 dX4_roomBy_36 f_4_45
theorem e78_39 : Rn X d 78 39 LS (.ref a :: ST) M h = q_g X (M a) 0 0 d 78 42 LS ST M h := s_get mt_78 dX4_roomBy_39 f_4_167
theorem e78_42 : Rn X d 78 42 (some (.ref a) :: t) ST M h = Rn X d 78 43 (some (.ref a) :: t) (.ref a :: ST) M h := r_aload_n mt_78 dX4_roomBy_42 rfl
theorem e78_43 : Rn X d 78 43 LS (.ref a :: ST) M h = q_g X (M a) 4 0 d 78 46 LS ST M h := s_get mt_78 dX4_roomBy_43 f_4_10
theorem e78_46 : Rn X d 78 46 LS (.ref a :: ST) M h = q_g X (M a) 2 0 d 78 49 LS ST M h := s_get mt_78 dX4_roomBy_46 f_4_45
theorem e78_49 : Rn X d 78 49 LS (.ref a :: ST) M h = q_g X (M a) 0 2 d 78 52 LS ST M h := s_get mt_78 dX4_roomBy_49 f_4_173
theorem e78_52 : Rn X d 78 52 (l0 :: l1 :: l2 :: some (.int x) :: t) ST M h = Rn X d 78 53 (l0 :: l1 :: l2 :: some (.int x) :: t) (.int x :: ST) M h := r_iload_n mt_78 dX4_roomBy_52 rfl
theorem e78_53 : Rn X d 78 53 LS (.int y :: .int x :: ST) M h = Rn X d 78 54 LS (.int (x - y) :: ST) M h := r_isub mt_78 dX4_roomBy_53
theorem e78_54 : Rn X d 78 54 LS (.int y :: .int x :: ST) M h = Rn X d 78 55 LS (.int (x - y) :: ST) M h := r_isub mt_78 dX4_roomBy_54
theorem e78_55 : Rn X d 78 55 LS ([.int x]) M h = some (.inl (some (.int x)), M, h) := r_iret mt_78 dX4_roomBy_55 rfl
theorem e79_0 : Rn X d 79 0 (some (.ref a) :: t) ST M h = Rn X d 79 1 (some (.ref a) :: t) (.ref a :: ST) M h := r_aload_n mt_79 dX4_slower_0 rfl
theorem e79_1 : Rn X d 79 1 LS (.ref a :: ST) M h = q_g X (M a) 4 0 d 79 4 LS ST M h := s_get mt_79 dX4_slower_1 f_4_10
theorem e79_4 : Rn X d 79 4 LS (.ref a :: ST) M h = q_g X (M a) 2 1 d 79 7 LS ST M h := s_get mt_79 dX4_slower_4 f_4_223
theorem e79_7 : Rn X d 79 7 LS (.ref a :: ST) M h = q_g X (M a) 1 1 d 79 10 LS ST M h := s_get mt_79 dX4_slower_7 f_4_147
theorem e79_10 : Rn X d 79 10 (some (.ref a) :: t) ST M h = Rn X d 79 11 (some (.ref a) :: t) (.ref a :: ST) M h := r_aload_n mt_79 dX4_slower_10 rfl
theorem e79_11 : Rn X d 79 11 LS (.ref a :: ST) M h = q_g X (M a) 4 0 d 79 14 LS ST M h := s_get mt_79 dX4_slower_11 f_4_10
theorem e79_14 : Rn X d 79 14 LS (.ref a :: ST) M h = q_g X (M a) 2 2 d 79 17 LS ST M h := s_get mt_79 dX4_slower_14 f_4_227
theorem e79_17 : Rn X d 79 17 LS (.ref a :: ST) M h = q_g X (M a) 1 1 d 79 20 LS ST M h := s_get mt_79 dX4_slower_17 f_4_147
theorem e79_20 : Rn X d 79 20 LS (.int y :: .int x :: ST) M h = q_eq X x y d 79 23 25 LS ST M h := s_icne mt_79 dX4_slower_20 rfl
theorem e79_23 : Rn X d 79 23 LS ST M h = Rn X d 79 24 LS (.int (zN 2) :: ST) M h := r_iconst mt_79 dX4_slower_23 c_ic2
theorem e79_24 : Rn X d 79 24 LS ([.int x]) M h = some (.inl (some (.int x)), M, h) := r_iret mt_79 dX4_slower_24 rfl
theorem e79_25 : Rn X d 79 25 (some (.ref a) :: t) ST M h = Rn X d 79 26 (some (.ref a) :: t) (.ref a :: ST) M h := r_aload_n mt_79 dX4_slower_25 rfl
theorem e79_26 : Rn X d 79 26 LS (.ref a :: ST) M h = q_g X (M a) 4 0 d 79 29 LS ST M h := s_get mt_79 dX4_slower_26 f_4_10
theorem e79_29 : Rn X d 79 29 LS (.ref a :: ST) M h = q_g X (M a) 2 1 d 79 32 LS ST M h := s_get mt_79 dX4_slower_29 f_4_223
theorem e79_32 : Rn X d 79 32 LS (.ref a :: ST) M h = q_g X (M a) 1 1 d 79 35 LS ST M h := s_get mt_79 dX4_slower_32 f_4_147
theorem e79_35 : Rn X d 79 35 (some (.ref a) :: t) ST M h = Rn X d 79 36 (some (.ref a) :: t) (.ref a :: ST) M h := r_aload_n mt_79 dX4_slower_35 rfl
theorem e79_36 : Rn X d 79 36 LS (.ref a :: ST) M h = q_g X (M a) 4 0 d 79 39 LS ST M h := s_get mt_79 dX4_slower_36 f_4_10
theorem e79_39 : Rn X d 79 39 LS (.ref a :: ST) M h = q_g X (M a) 2 2 d 79 42 LS ST M h := s_get mt_79 dX4_slower_39 f_4_227
theorem e79_42 : Rn X d 79 42 LS (.ref a :: ST) M h = q_g X (M a) 1 1 d 79 45 LS ST M h := s_get mt_79 dX4_slower_42 f_4_147
theorem e79_45 : Rn X d 79 45 LS (.int y :: .int x :: ST) M h = q_le X y x d 79 52 48 LS ST M h := s_icge mt_79 dX4_slower_45 rfl
theorem e79_48 : Rn X d 79 48 LS ST M h = Rn X d 79 49 LS (.int (zN 0) :: ST) M h := r_iconst mt_79 dX4_slower_48 c_ic0
theorem e79_49 : Rn X d 79 49 LS ST M h = Rn X d 79 53 LS ST M h := r_goto mt_79 dX4_slower_49 rfl
theorem e79_52 : Rn X d 79 52 LS ST M h = Rn X d 79 53 LS (.int (zN 1) :: ST) M h := r_iconst mt_79 dX4_slower_52 c_ic1
theorem e79_53 : Rn X d 79 53 LS ([.int x]) M h = some (.inl (some (.int x)), M, h) := r_iret mt_79 dX4_slower_53 rfl
theorem e80_0 : Rn X d 80 0 (some (.ref a) :: t) ST M h = Rn X d 80 1 (some (.ref a) :: t) (.ref a :: ST) M h := r_aload_n mt_80 dX4_clearText_0 rfl
theorem e80_1 : Rn X d 80 1 LS (.ref a :: ST) M h = q_g X (M a) 4 3 d 80 4 LS ST M h := s_get mt_80 dX4_clearText_1 f_4_27
theorem e80_4 (hcs : Nat.ble (j_cs ST) 8 = true) : Rn X (d + 1) 80 4 LS (.ref a :: ST) M h = j_rc (M a) 3 (q_k X (Rn X d 49 0 [some (.ref a), none] [] M (j_h0 h)) h (d + 1) 80 7 LS ST) := s_callV mt_80 dX4_clearText_4 cl_4_237 mt_49 rfl rfl (Nat.le_add_left _ _) rfl rfl rfl rfl hcs
theorem e80_7 : Rn X d 80 7 LS ([.int x]) M h = some (.inl (some (.int x)), M, h) := r_iret mt_80 dX4_clearText_7 rfl
theorem e81_0 : Rn X d 81 0 (l0 :: some (.int x) :: t) ST M h = Rn X d 81 1 (l0 :: some (.int x) :: t) (.int x :: ST) M h := r_iload_n mt_81 dX4_append_0 rfl
theorem e81_1 : Rn X d 81 1 LS (.int x :: ST) M h = q_lt X x (zN 0) d 81 10 4 LS ST M h := s_iflt mt_81 dX4_append_1 rfl
theorem e81_4 : Rn X d 81 4 (l0 :: some (.int x) :: t) ST M h = Rn X d 81 5 (l0 :: some (.int x) :: t) (.int x :: ST) M h := r_iload_n mt_81 dX4_append_4 rfl
theorem e81_5 : Rn X d 81 5 LS ST M h = Rn X d 81 7 LS (.int (zN 127) :: ST) M h := r_bipush mt_81 dX4_append_5 c_bi127
theorem e81_7 : Rn X d 81 7 LS (.int y :: .int x :: ST) M h = q_le X x y d 81 20 10 LS ST M h := s_icle mt_81 dX4_append_7 rfl
theorem e81_10 : Rn X (d + 6) 81 10 LS [] M h = some (.inr "java/lang/IllegalArgumentException", M, j_thr h) := r_throw mt_81 dX4_append_10 tl_4_35 rfl dX4_append_13 dX4_append_14 sr_4_230 dX4_append_16 dX4_append_19
theorem e81_20 : Rn X d 81 20 (some (.ref a) :: t) ST M h = Rn X d 81 21 (some (.ref a) :: t) (.ref a :: ST) M h := r_aload_n mt_81 dX4_append_20 rfl
theorem e81_21 : Rn X d 81 21 LS (.ref a :: ST) M h = q_g X (M a) 4 3 d 81 24 LS ST M h := s_get mt_81 dX4_append_21 f_4_27
theorem e81_24 (hcs : Nat.ble (j_cs ST) 8 = true) : Rn X (d + 1) 81 24 LS (.ref a :: ST) M h = j_rc (M a) 3 (q_k X (Rn X d 47 0 [some (.ref a)] [] M (j_h0 h)) h (d + 1) 81 27 LS ST) := s_callV mt_81 dX4_append_24 cl_4_232 mt_47 rfl rfl (Nat.le_add_left _ _) rfl rfl rfl rfl hcs
theorem e81_27 : Rn X d 81 27 LS (.int x :: ST) M h = q_eq X x (zN 0) d 81 40 30 LS ST M h := s_ifeq mt_81 dX4_append_27 rfl
theorem e81_30 : Rn X (d + 6) 81 30 LS [] M h = some (.inr "java/lang/IllegalStateException", M, j_thr h) := r_throw mt_81 dX4_append_30 tl_4_69 rfl dX4_append_33 dX4_append_34 sr_4_233 dX4_append_36 dX4_append_39
theorem e81_40 : Rn X d 81 40 (some (.ref a) :: t) ST M h = Rn X d 81 41 (some (.ref a) :: t) (.ref a :: ST) M h := r_aload_n mt_81 dX4_append_40 rfl
theorem e81_41 : Rn X d 81 41 LS (.ref a :: ST) M h = q_g X (M a) 4 3 d 81 44 LS ST M h := s_get mt_81 dX4_append_41 f_4_27
theorem e81_44 : Rn X d 81 44 (l0 :: some (.int x) :: t) ST M h = Rn X d 81 45 (l0 :: some (.int x) :: t) (.int x :: ST) M h := r_iload_n mt_81 dX4_append_44 rfl
theorem e81_45 (hcs : Nat.ble (j_cs ST) 8 = true) : Rn X (d + 1) 81 45 LS (.int x :: .ref a :: ST) M h = j_rc (M a) 3 (q_k X (Rn X d 48 0 [some (.ref a), some (.int x)] [] M (j_h0 h)) h (d + 1) 81 48 LS ST) := s_callV mt_81 dX4_append_45 cl_4_235 mt_48 rfl rfl (Nat.le_add_left _ _) rfl rfl rfl rfl hcs
theorem e81_48 : Rn X d 81 48 LS ([.int x]) M h = some (.inl (some (.int x)), M, h) := r_iret mt_81 dX4_append_48 rfl
theorem e82_0 : Rn X d 82 0 (some (.ref a) :: t) ST M h = Rn X d 82 1 (some (.ref a) :: t) (.ref a :: ST) M h := r_aload_n mt_82 dX4_clearText_0 rfl
theorem e82_1 : Rn X d 82 1 LS (.ref a :: ST) M h = q_g X (M a) 4 3 d 82 4 LS ST M h := s_get mt_82 dX4_clearText_1 f_4_27
theorem e82_4 (hcs : Nat.ble (j_cs ST) 8 = true) : Rn X (d + 1) 82 4 LS (.ref a :: ST) M h = j_rc (M a) 3 (q_k X (Rn X d 49 0 [some (.ref a), none] [] M (j_h0 h)) h (d + 1) 82 7 LS ST) := s_callV mt_82 dX4_clearText_4 cl_4_237 mt_49 rfl rfl (Nat.le_add_left _ _) rfl rfl rfl rfl hcs
theorem e82_7 : Rn X d 82 7 LS ([.int x]) M h = some (.inl (some (.int x)), M, h) := r_iret mt_82 dX4_clearText_7 rfl
theorem e83_0 : Rn X d 83 0 (some (.ref a) :: t) ST M h = Rn X d 83 1 (some (.ref a) :: t) (.ref a :: ST) M h := r_aload_n mt_83 dX4_carryOut_0 rfl
theorem e83_1 : Rn X d 83 1 LS (.ref a :: ST) M h = q_g X (M a) 4 3 d 83 4 LS ST M h := s_get mt_83 dX4_carryOut_1 f_4_27
theorem e83_4 (hcs : Nat.ble (j_cs ST) 8 = true) : Rn X (d + 1) 83 4 LS (.ref a :: ST) M h = j_rc (M a) 3 (q_k X (Rn X d 53 0 [some (.ref a), none] [] M (j_h0 h)) h (d + 1) 83 7 LS ST) := s_callV mt_83 dX4_carryOut_4 cl_4_240 mt_53 rfl rfl (Nat.le_add_left _ _) rfl rfl rfl rfl hcs
theorem e83_7 (ho : j_one l0 = true) : Rn X d 83 7 (l0 :: l1 :: t) (.int x :: ST) M h = Rn X d 83 8 (l0 :: some (.int x) :: t) ST M h := r_istore_n mt_83 dX4_carryOut_7 (by show 1 < _; simp only [List.length_cons]; omega) ho rfl
theorem e83_8 : Rn X d 83 8 (l0 :: some (.int x) :: t) ST M h = Rn X d 83 9 (l0 :: some (.int x) :: t) (.int x :: ST) M h := r_iload_n mt_83 dX4_carryOut_8 rfl
theorem e83_9 : Rn X d 83 9 LS ST M h = Rn X d 83 10 LS (.int (zM 0) :: ST) M h := r_iconst mt_83 dX4_carryOut_9 c_icm1
theorem e83_10 : Rn X d 83 10 LS (.int y :: .int x :: ST) M h = q_eq X x y d 83 18 13 LS ST M h := s_iceq mt_83 dX4_carryOut_10 rfl
theorem e83_13 : Rn X d 83 13 LS ST M h = Rn X d 83 15 LS (.int (zM 9) :: ST) M h := r_bipush mt_83 dX4_carryOut_13 c_bim10
theorem e83_15 : Rn X d 83 15 (l0 :: some (.int x) :: t) ST M h = Rn X d 83 16 (l0 :: some (.int x) :: t) (.int x :: ST) M h := r_iload_n mt_83 dX4_carryOut_15 rfl
theorem e83_16 : Rn X d 83 16 LS (.int y :: .int x :: ST) M h = Rn X d 83 17 LS (.int (x - y) :: ST) M h := r_isub mt_83 dX4_carryOut_16
theorem e83_17 : Rn X d 83 17 LS ([.int x]) M h = some (.inl (some (.int x)), M, h) := r_iret mt_83 dX4_carryOut_17 rfl
theorem e83_18 : Rn X d 83 18 (some (.ref a) :: t) ST M h = Rn X d 83 19 (some (.ref a) :: t) (.ref a :: ST) M h := r_aload_n mt_83 dX4_carryOut_18 rfl
theorem e83_19 (hcs : Nat.ble (j_cs ST) 8 = true) : Rn X (d + 1) 83 19 LS (.ref a :: ST) M h = j_rc (M a) 4 (q_k X (Rn X d 96 0 [some (.ref a), none, none] [] M (j_h0 h)) h (d + 1) 83 22 LS ST) := s_callV mt_83 dX4_carryOut_19 cl_4_42 mt_96 rfl rfl (Nat.le_add_left _ _) rfl rfl rfl rfl hcs
theorem e83_22 : Rn X d 83 22 (some (.ref a) :: t) ST M h = Rn X d 83 23 (some (.ref a) :: t) (.ref a :: ST) M h := r_aload_n mt_83 dX4_carryOut_22 rfl
theorem e83_23 : Rn X d 83 23 LS (.ref a :: ST) M h = q_g X (M a) 4 3 d 83 26 LS ST M h := s_get mt_83 dX4_carryOut_23 f_4_27
theorem e83_26 (hcs : Nat.ble (j_cs ST) 8 = true) : Rn X (d + 1) 83 26 LS (.ref a :: ST) M h = j_rc (M a) 3 (q_k X (Rn X d 51 0 [some (.ref a)] [] M (j_h0 h)) h (d + 1) 83 29 LS ST) := s_callV mt_83 dX4_carryOut_26 cl_4_243 mt_51 rfl rfl (Nat.le_add_left _ _) rfl rfl rfl rfl hcs
theorem e83_29 : Rn X d 83 29 LS ST M h = Rn X d 83 30 LS (.int (zN 0) :: ST) M h := r_iconst mt_83 dX4_carryOut_29 c_ic0
theorem e83_30 (ho : j_one l1 = true) : Rn X d 83 30 (l0 :: l1 :: l2 :: t) (.int x :: ST) M h = Rn X d 83 31 (l0 :: l1 :: some (.int x) :: t) ST M h := r_istore_n mt_83 dX4_carryOut_30 (by show 2 < _; simp only [List.length_cons]; omega) ho rfl
theorem e83_31 : Rn X d 83 31 (l0 :: l1 :: some (.int x) :: t) ST M h = Rn X d 83 32 (l0 :: l1 :: some (.int x) :: t) (.int x :: ST) M h := r_iload_n mt_83 dX4_carryOut_31 rfl
theorem e83_32 : Rn X d 83 32 LS ST M h = Rn X d 83 34 LS (.int (zN 100) :: ST) M h := r_bipush mt_83 dX4_carryOut_32 c_bi100
theorem e83_34 : Rn X d 83 34 LS (.int y :: .int x :: ST) M h = q_le X y x d 83 72 37 LS ST M h := s_icge mt_83 dX4_carryOut_34 rfl
theorem e83_37 : Rn X d 83 37 (some (.ref a) :: t) ST M h = Rn X d 83 38 (some (.ref a) :: t) (.ref a :: ST) M h := r_aload_n mt_83 dX4_carryOut_37 rfl
theorem e83_38 : Rn X d 83 38 LS (.ref a :: ST) M h = q_g X (M a) 4 3 d 83 41 LS ST M h := s_get mt_83 dX4_carryOut_38 f_4_27
theorem e83_41 (hcs : Nat.ble (j_cs ST) 8 = true) : Rn X (d + 1) 83 41 LS (.ref a :: ST) M h = j_rc (M a) 3 (q_k X (Rn X d 52 0 [some (.ref a)] [] M (j_h0 h)) h (d + 1) 83 44 LS ST) := s_callV mt_83 dX4_carryOut_41 cl_4_246 mt_52 rfl rfl (Nat.le_add_left _ _) rfl rfl rfl rfl hcs
theorem e83_44 : Rn X d 83 44 LS (.int x :: ST) M h = q_eq X x (zN 0) d 83 47 64 LS ST M h := s_ifne mt_83 dX4_carryOut_44 rfl
theorem e83_47 : Rn X d 83 47 (some (.ref a) :: t) ST M h = Rn X d 83 48 (some (.ref a) :: t) (.ref a :: ST) M h := r_aload_n mt_83 dX4_carryOut_47 rfl
theorem e83_48 : Rn X d 83 48 LS (.ref a :: ST) M h = q_g X (M a) 4 3 d 83 51 LS ST M h := s_get mt_83 dX4_carryOut_48 f_4_27
theorem e83_51 (hcs : Nat.ble (j_cs ST) 8 = true) : Rn X (d + 1) 83 51 LS (.ref a :: ST) M h = j_rc (M a) 3 (q_k X (Rn X d 54 0 [some (.ref a)] [] M (j_h0 h)) h (d + 1) 83 54 LS ST) := s_callV mt_83 dX4_carryOut_51 cl_4_249 mt_54 rfl rfl (Nat.le_add_left _ _) rfl rfl rfl rfl hcs
theorem e83_54 : Rn X d 83 54 LS (.int x :: ST) M h = q_eq X x (zN 0) d 83 64 57 LS ST M h := s_ifeq mt_83 dX4_carryOut_54 rfl
theorem e83_57 : Rn X d 83 57 (some (.ref a) :: t) ST M h = Rn X d 83 58 (some (.ref a) :: t) (.ref a :: ST) M h := r_aload_n mt_83 dX4_carryOut_57 rfl
theorem e83_58 (hcs : Nat.ble (j_cs ST) 8 = true) : Rn X (d + 1) 83 58 LS (.ref a :: ST) M h = j_rc (M a) 4 (q_k X (Rn X d 97 0 [some (.ref a)] [] M (j_h0 h)) h (d + 1) 83 61 LS ST) := s_callV mt_83 dX4_carryOut_58 cl_4_252 mt_97 rfl rfl (Nat.le_add_left _ _) rfl rfl rfl rfl hcs
theorem e83_61 : Rn X d 83 61 LS (.int x :: ST) M h = q_eq X x (zN 0) d 83 64 66 LS ST M h := s_ifne mt_83 dX4_carryOut_61 rfl
theorem e83_64 : Rn X d 83 64 (l0 :: l1 :: some (.int x) :: t) ST M h = Rn X d 83 65 (l0 :: l1 :: some (.int x) :: t) (.int x :: ST) M h := r_iload_n mt_83 dX4_carryOut_64 rfl
theorem e83_65 : Rn X d 83 65 LS ([.int x]) M h = some (.inl (some (.int x)), M, h) := r_iret mt_83 dX4_carryOut_65 rfl
theorem e83_66 (ho : j_one l1 = true) : Rn X d 83 66 (l0 :: l1 :: some (.int x) :: t) ST M h = Rn X d 83 69 (l0 :: l1 :: some (.int (x + (zN 1))) :: t) ST M h := r_iinc mt_83 dX4_carryOut_66 rfl (by simp only [List.length_cons]; omega) ho c_ic1 rfl
theorem e83_69 : Rn X d 83 69 LS ST M h = Rn X d 83 31 LS ST M h := r_goto mt_83 dX4_carryOut_69 rfl
theorem e83_72 : Rn X d 83 72 LS ST M h = Rn X d 83 74 LS (.int (zN 100) :: ST) M h := r_bipush mt_83 dX4_carryOut_72 c_bi100
theorem e83_74 : Rn X d 83 74 LS ([.int x]) M h = some (.inl (some (.int x)), M, h) := r_iret mt_83 dX4_carryOut_74 rfl
theorem e84_0 : Rn X d 84 0 (some (.ref a) :: t) ST M h = Rn X d 84 1 (some (.ref a) :: t) (.ref a :: ST) M h := r_aload_n mt_84 dX4_undo_0 rfl
theorem e84_1 : Rn X d 84 1 LS (.ref a :: ST) M h = q_g X (M a) 4 2 d 84 4 LS ST M h := s_get mt_84 dX4_undo_1 f_4_20
theorem e84_4 : Rn X d 84 4 LS ST M h = Rn X d 84 5 LS (.int (zN 1) :: ST) M h := r_iconst mt_84 dX4_undo_4 c_ic1
theorem e84_5 : Rn X d 84 5 LS (.int y :: .int x :: ST) M h = q_le X y x d 84 18 8 LS ST M h := s_icge mt_84 dX4_undo_5 rfl
theorem e84_8 : Rn X (d + 6) 84 8 LS [] M h = some (.inr "java/lang/IllegalStateException", M, j_thr h) := r_throw mt_84 dX4_undo_8 tl_4_69 rfl dX4_undo_11 dX4_undo_12 sr_4_255 dX4_undo_14 dX4_undo_17
theorem e84_18 : Rn X d 84 18 (some (.ref a) :: t) ST M h = Rn X d 84 19 (some (.ref a) :: t) (.ref a :: ST) M h := r_aload_n mt_84 dX4_undo_18 rfl
theorem e84_19 : Rn X d 84 19 LS (.int x :: ST) M h = Rn X d 84 20 LS (.int x :: .int x :: ST) M h := r_dup mt_84 dX4_undo_19 rfl
theorem e84_19r : Rn X d 84 19 LS (.ref a :: ST) M h = Rn X d 84 20 LS (.ref a :: .ref a :: ST) M h := r_dup mt_84 dX4_undo_19 rfl
theorem e84_20 : Rn X d 84 20 LS (.ref a :: ST) M h = q_g X (M a) 4 2 d 84 23 LS ST M h := s_get mt_84 dX4_undo_20 f_4_20
theorem e84_23 : Rn X d 84 23 LS ST M h = Rn X d 84 24 LS (.int (zN 1) :: ST) M h := r_iconst mt_84 dX4_undo_23 c_ic1
theorem e84_24 : Rn X d 84 24 LS (.int y :: .int x :: ST) M h = Rn X d 84 25 LS (.int (x - y) :: ST) M h := r_isub mt_84 dX4_undo_24
theorem e84_25 : Rn X d 84 25 LS (.int x :: .ref a :: ST) M h = q_p X (M a) a 4 2 (.int x) d 84 28 LS ST M h := s_putN mt_84 dX4_undo_25 f_4_20 rfl rfl rfl
theorem e84_28 : Rn X d 84 28 (some (.ref a) :: t) ST M h = Rn X d 84 29 (some (.ref a) :: t) (.ref a :: ST) M h := r_aload_n mt_84 dX4_undo_28 rfl
theorem e84_29 : Rn X d 84 29 LS (.ref a :: ST) M h = q_g X (M a) 4 0 d 84 32 LS ST M h := s_get mt_84 dX4_undo_29 f_4_10
theorem e84_32 : Rn X d 84 32 (some (.ref a) :: t) ST M h = Rn X d 84 33 (some (.ref a) :: t) (.ref a :: ST) M h := r_aload_n mt_84 dX4_undo_32 rfl
theorem e84_33 : Rn X d 84 33 LS (.ref a :: ST) M h = q_g X (M a) 4 1 d 84 36 LS ST M h := s_get mt_84 dX4_undo_33 f_4_16
theorem e84_36 : Rn X d 84 36 (some (.ref a) :: t) ST M h = Rn X d 84 37 (some (.ref a) :: t) (.ref a :: ST) M h := r_aload_n mt_84 dX4_undo_36 rfl
theorem e84_37 : Rn X d 84 37 LS (.ref a :: ST) M h = q_g X (M a) 4 2 d 84 40 LS ST M h := s_get mt_84 dX4_undo_37 f_4_20
theorem e84_40 : Rn X d 84 40 LS (.int x :: .ref a :: ST) M h = q_lQ X (M a) x d 84 41 LS ST M h := s_aald mt_84 dX4_undo_40
theorem e84_41 (hcs : Nat.ble (j_cs ST) 8 = true) : Rn X (d + 1) 84 41 LS (.ref b :: .ref a :: ST) M h = j_rc (M a) 2 (q_k X (Rn X d 33 0 [some (.ref a), some (.ref b)] [] M (j_h0 h)) h (d + 1) 84 44 LS ST) := s_callV mt_84 dX4_undo_41 cl_4_257 mt_33 rfl rfl (Nat.le_add_left _ _) rfl rfl rfl rfl hcs
theorem e84_44 : Rn X d 84 44 (some (.ref a) :: t) ST M h = Rn X d 84 45 (some (.ref a) :: t) (.ref a :: ST) M h := r_aload_n mt_84 dX4_undo_44 rfl
theorem e84_45 : Rn X d 84 45 LS (.ref a :: ST) M h = q_g X (M a) 4 2 d 84 48 LS ST M h := s_get mt_84 dX4_undo_45 f_4_20
theorem e84_48 : Rn X d 84 48 LS ([.int x]) M h = some (.inl (some (.int x)), M, h) := r_iret mt_84 dX4_undo_48 rfl
theorem e85_0 : Rn X d 85 0 LS ST M h = Rn X d 85 3 LS (.long 3797 :: ST) M h := r_ldc2_w mt_85 dX4_digest_0 kj_4_261
theorem e85_3 : Rn X d 85 3 (some (.ref a) :: t) ST M h = Rn X d 85 4 (some (.ref a) :: t) (.ref a :: ST) M h := r_aload_n mt_85 dX4_digest_3 rfl
theorem e85_4 : Rn X d 85 4 LS (.ref a :: ST) M h = q_g X (M a) 4 3 d 85 7 LS ST M h := s_get mt_85 dX4_digest_4 f_4_27
theorem e85_7 : Rn X d 85 7 LS (.ref a :: ST) M h = q_g X (M a) 3 0 d 85 10 LS ST M h := s_get mt_85 dX4_digest_7 f_4_263
theorem e85_10 : Rn X d 85 10 LS (.int x :: ST) M h = Rn X d 85 11 LS (.long x.toInt64 :: ST) M h := r_i2l mt_85 dX4_digest_10
theorem e85_11 (hcs : Nat.ble (j_cs ST) 8 = true) : Rn X (d + 1) 85 11 LS (.long q :: .long p :: ST) M h = q_k X (Rn X d 86 0 [some (.long p), none, some (.long q), none] [] M (j_h0 h)) h (d + 1) 85 14 LS ST := s_callS (Or.inl rfl) mt_85 dX4_digest_11 cl_4_266 mt_86 rfl (Nat.le_add_left _ _) rfl rfl rfl rfl hcs
theorem e85_14 (ho : j_one l0 = true) : Rn X d 85 14 (l0 :: l1 :: l2 :: t) (.long p :: ST) M h = Rn X d 85 15 (l0 :: some (.long p) :: none :: t) ST M h := r_lstore_n mt_85 dX4_digest_14 (by show 2 < _; simp only [List.length_cons]; omega) ho rfl
theorem e85_15 : Rn X d 85 15 LS ST M h = Rn X d 85 16 LS (.int (zN 0) :: ST) M h := r_iconst mt_85 dX4_digest_15 c_ic0
theorem e85_16 (ho : j_one l2 = true) : Rn X d 85 16 (l0 :: l1 :: l2 :: l3 :: t) (.int x :: ST) M h = Rn X d 85 17 (l0 :: l1 :: l2 :: some (.int x) :: t) ST M h := r_istore_n mt_85 dX4_digest_16 (by show 3 < _; simp only [List.length_cons]; omega) ho rfl
theorem e85_17 : Rn X d 85 17 (l0 :: l1 :: l2 :: some (.int x) :: t) ST M h = Rn X d 85 18 (l0 :: l1 :: l2 :: some (.int x) :: t) (.int x :: ST) M h := r_iload_n mt_85 dX4_digest_17 rfl
theorem e85_18 : Rn X d 85 18 LS ST M h = Rn X d 85 20 LS (.int (zN 7) :: ST) M h := r_bipush mt_85 dX4_digest_18 c_bi7
theorem e85_20 : Rn X d 85 20 LS (.int y :: .int x :: ST) M h = q_le X y x d 85 40 23 LS ST M h := s_icge mt_85 dX4_digest_20 rfl
theorem e85_23 : Rn X d 85 23 (l0 :: some (.long p) :: t) ST M h = Rn X d 85 24 (l0 :: some (.long p) :: t) (.long p :: ST) M h := r_lload_n mt_85 dX4_digest_23 rfl
theorem e85_24 : Rn X d 85 24 (some (.ref a) :: t) ST M h = Rn X d 85 25 (some (.ref a) :: t) (.ref a :: ST) M h := r_aload_n mt_85 dX4_digest_24 rfl
theorem e85_25 : Rn X d 85 25 (l0 :: l1 :: l2 :: some (.int x) :: t) ST M h = Rn X d 85 26 (l0 :: l1 :: l2 :: some (.int x) :: t) (.int x :: ST) M h := r_iload_n mt_85 dX4_digest_25 rfl
theorem e85_26 (hcs : Nat.ble (j_cs ST) 8 = true) : Rn X (d + 1) 85 26 LS (.int x :: .ref a :: ST) M h = j_rc (M a) 4 (q_k X (Rn X d 73 0 [some (.ref a), some (.int x)] [] M (j_h0 h)) h (d + 1) 85 29 LS ST) := s_callV mt_85 dX4_digest_26 cl_4_270 mt_73 rfl rfl (Nat.le_add_left _ _) rfl rfl rfl rfl hcs
theorem e85_29 : Rn X d 85 29 LS (.int x :: ST) M h = Rn X d 85 30 LS (.long x.toInt64 :: ST) M h := r_i2l mt_85 dX4_digest_29
theorem e85_30 (hcs : Nat.ble (j_cs ST) 8 = true) : Rn X (d + 1) 85 30 LS (.long q :: .long p :: ST) M h = q_k X (Rn X d 86 0 [some (.long p), none, some (.long q), none] [] M (j_h0 h)) h (d + 1) 85 33 LS ST := s_callS (Or.inl rfl) mt_85 dX4_digest_30 cl_4_266 mt_86 rfl (Nat.le_add_left _ _) rfl rfl rfl rfl hcs
theorem e85_33 (ho : j_one l0 = true) : Rn X d 85 33 (l0 :: l1 :: l2 :: t) (.long p :: ST) M h = Rn X d 85 34 (l0 :: some (.long p) :: none :: t) ST M h := r_lstore_n mt_85 dX4_digest_33 (by show 2 < _; simp only [List.length_cons]; omega) ho rfl
theorem e85_34 (ho : j_one l2 = true) : Rn X d 85 34 (l0 :: l1 :: l2 :: some (.int x) :: t) ST M h = Rn X d 85 37 (l0 :: l1 :: l2 :: some (.int (x + (zN 1))) :: t) ST M h := r_iinc mt_85 dX4_digest_34 rfl (by simp only [List.length_cons]; omega) ho c_ic1 rfl
theorem e85_37 : Rn X d 85 37 LS ST M h = Rn X d 85 17 LS ST M h := r_goto mt_85 dX4_digest_37 rfl
theorem e85_40 : Rn X d 85 40 (some (.ref a) :: t) ST M h = Rn X d 85 41 (some (.ref a) :: t) (.ref a :: ST) M h := r_aload_n mt_85 dX4_digest_40 rfl
theorem e85_41 : Rn X d 85 41 (l0 :: some (.long p) :: t) ST M h = Rn X d 85 42 (l0 :: some (.long p) :: t) (.long p :: ST) M h := r_lload_n mt_85 dX4_digest_41 rfl
theorem e85_42 (hcs : Nat.ble (j_cs ST) 8 = true) : Rn X (d + 1) 85 42 LS (.long p :: .ref a :: ST) M h = j_rc (M a) 4 (q_k X (Rn X d 87 0 [some (.ref a), some (.long p), none, none, none, none, none] [] M (j_h0 h)) h (d + 1) 85 45 LS ST) := s_callV mt_85 dX4_digest_42 cl_4_273 mt_87 rfl rfl (Nat.le_add_left _ _) rfl rfl rfl rfl hcs
theorem e85_45 (ho : j_one l0 = true) : Rn X d 85 45 (l0 :: l1 :: l2 :: t) (.long p :: ST) M h = Rn X d 85 46 (l0 :: some (.long p) :: none :: t) ST M h := r_lstore_n mt_85 dX4_digest_45 (by show 2 < _; simp only [List.length_cons]; omega) ho rfl
theorem e85_46 : Rn X d 85 46 (some (.ref a) :: t) ST M h = Rn X d 85 47 (some (.ref a) :: t) (.ref a :: ST) M h := r_aload_n mt_85 dX4_digest_46 rfl
theorem e85_47 : Rn X d 85 47 (l0 :: some (.long p) :: t) ST M h = Rn X d 85 48 (l0 :: some (.long p) :: t) (.long p :: ST) M h := r_lload_n mt_85 dX4_digest_47 rfl
theorem e85_48 (hcs : Nat.ble (j_cs ST) 8 = true) : Rn X (d + 1) 85 48 LS (.long p :: .ref a :: ST) M h = j_rc (M a) 4 (q_k X (Rn X d 88 0 [some (.ref a), some (.long p), none, none, none, none, none] [] M (j_h0 h)) h (d + 1) 85 51 LS ST) := s_callV mt_85 dX4_digest_48 cl_4_277 mt_88 rfl rfl (Nat.le_add_left _ _) rfl rfl rfl rfl hcs
theorem e85_51 (ho : j_one l0 = true) : Rn X d 85 51 (l0 :: l1 :: l2 :: t) (.long p :: ST) M h = Rn X d 85 52 (l0 :: some (.long p) :: none :: t) ST M h := r_lstore_n mt_85 dX4_digest_51 (by show 2 < _; simp only [List.length_cons]; omega) ho rfl
theorem e85_52 : Rn X d 85 52 (some (.ref a) :: t) ST M h = Rn X d 85 53 (some (.ref a) :: t) (.ref a :: ST) M h := r_aload_n mt_85 dX4_digest_52 rfl
theorem e85_53 : Rn X d 85 53 (l0 :: some (.long p) :: t) ST M h = Rn X d 85 54 (l0 :: some (.long p) :: t) (.long p :: ST) M h := r_lload_n mt_85 dX4_digest_53 rfl
theorem e85_54 (hcs : Nat.ble (j_cs ST) 8 = true) : Rn X (d + 1) 85 54 LS (.long p :: .ref a :: ST) M h = j_rc (M a) 4 (q_k X (Rn X d 89 0 [some (.ref a), some (.long p), none, none, none, none] [] M (j_h0 h)) h (d + 1) 85 57 LS ST) := s_callV mt_85 dX4_digest_54 cl_4_280 mt_89 rfl rfl (Nat.le_add_left _ _) rfl rfl rfl rfl hcs
theorem e85_57 (ho : j_one l0 = true) : Rn X d 85 57 (l0 :: l1 :: l2 :: t) (.long p :: ST) M h = Rn X d 85 58 (l0 :: some (.long p) :: none :: t) ST M h := r_lstore_n mt_85 dX4_digest_57 (by show 2 < _; simp only [List.length_cons]; omega) ho rfl
theorem e85_58 : Rn X d 85 58 (l0 :: some (.long p) :: t) ST M h = Rn X d 85 59 (l0 :: some (.long p) :: t) (.long p :: ST) M h := r_lload_n mt_85 dX4_digest_58 rfl
theorem e85_59 : Rn X d 85 59 (some (.ref a) :: t) ST M h = Rn X d 85 60 (some (.ref a) :: t) (.ref a :: ST) M h := r_aload_n mt_85 dX4_digest_59 rfl
theorem e85_60 : Rn X d 85 60 LS (.ref a :: ST) M h = q_g X (M a) 4 2 d 85 63 LS ST M h := s_get mt_85 dX4_digest_60 f_4_20
theorem e85_63 : Rn X d 85 63 LS (.int x :: ST) M h = Rn X d 85 64 LS (.long x.toInt64 :: ST) M h := r_i2l mt_85 dX4_digest_63
theorem e85_64 (hcs : Nat.ble (j_cs ST) 8 = true) : Rn X (d + 1) 85 64 LS (.long q :: .long p :: ST) M h = q_k X (Rn X d 86 0 [some (.long p), none, some (.long q), none] [] M (j_h0 h)) h (d + 1) 85 67 LS ST := s_callS (Or.inl rfl) mt_85 dX4_digest_64 cl_4_266 mt_86 rfl (Nat.le_add_left _ _) rfl rfl rfl rfl hcs
theorem e85_67 : Rn X d 85 67 LS ([.long p]) M h = some (.inl (some (.long p)), M, h) := r_lret mt_85 dX4_digest_67 rfl
end
