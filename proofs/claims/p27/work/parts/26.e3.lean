/-! one rule an instruction, printed by wip/p27/gen25.py -/
section
variable {X : jX} {d : Nat} {l0 l1 l2 l3 l4 l5 l6 l7 l8 l9 l10 l11 : Option Value} {LS t : jL} {ST : List Value} {M : jM} {h : jH} {x y z w u : Int32} {a b c e : Nat} {p q : Int64} {f g : UInt64}
theorem e86_0 : Rn X d 86 0 LS ST M h = Rn X d 86 3 LS (.long 31 :: ST) M h := r_ldc2_w mt_86 dX4_mix_0 kj_4_283
theorem e86_3 : Rn X d 86 3 (some (.long p) :: t) ST M h = Rn X d 86 4 (some (.long p) :: t) (.long p :: ST) M h := r_lload_n mt_86 dX4_mix_3 rfl
theorem e86_4 : Rn X d 86 4 LS (.long q :: .long p :: ST) M h = Rn X d 86 5 LS (.long (p * q) :: ST) M h := r_lmul mt_86 dX4_mix_4
theorem e86_5 : Rn X d 86 5 (l0 :: l1 :: some (.long p) :: t) ST M h = Rn X d 86 6 (l0 :: l1 :: some (.long p) :: t) (.long p :: ST) M h := r_lload_n mt_86 dX4_mix_5 rfl
theorem e86_6 : Rn X d 86 6 LS (.long q :: .long p :: ST) M h = Rn X d 86 7 LS (.long (p + q) :: ST) M h := r_ladd mt_86 dX4_mix_6
theorem e86_7 : Rn X d 86 7 LS ([.long p]) M h = some (.inl (some (.long p)), M, h) := r_lret mt_86 dX4_mix_7 rfl
theorem e87_0 : Rn X d 87 0 (l0 :: some (.long p) :: t) ST M h = Rn X d 87 1 (l0 :: some (.long p) :: t) (.long p :: ST) M h := r_lload_n mt_87 dX4_mixOrders_0 rfl
theorem e87_1 (ho : j_one l2 = true) : Rn X d 87 1 (l0 :: l1 :: l2 :: l3 :: l4 :: t) (.long p :: ST) M h = Rn X d 87 2 (l0 :: l1 :: l2 :: some (.long p) :: none :: t) ST M h := r_lstore_n mt_87 dX4_mixOrders_1 (by show 4 < _; simp only [List.length_cons]; omega) ho rfl
theorem e87_2 : Rn X d 87 2 (some (.ref a) :: t) ST M h = Rn X d 87 3 (some (.ref a) :: t) (.ref a :: ST) M h := r_aload_n mt_87 dX4_mixOrders_2 rfl
theorem e87_3 : Rn X d 87 3 LS (.ref a :: ST) M h = q_g X (M a) 4 0 d 87 6 LS ST M h := s_get mt_87 dX4_mixOrders_3 f_4_10
theorem e87_6 : Rn X d 87 6 LS (.ref a :: ST) M h = q_g X (M a) 2 0 d 87 9 LS ST M h := s_get mt_87 dX4_mixOrders_6 f_4_45
theorem e87_9 : Rn X d 87 9 LS (.ref a :: ST) M h = q_g X (M a) 0 1 d 87 12 LS ST M h := s_get mt_87 dX4_mixOrders_9 f_4_170
theorem e87_12 (ho : j_one l4 = true) : Rn X d 87 12 (l0 :: l1 :: l2 :: l3 :: l4 :: l5 :: t) (.int x :: ST) M h = Rn X d 87 14 (l0 :: l1 :: l2 :: l3 :: l4 :: some (.int x) :: t) ST M h := r_istore mt_87 dX4_mixOrders_12 (by show 5 < _; simp only [List.length_cons]; omega) ho rfl
theorem e87_14 : Rn X d 87 14 (l0 :: l1 :: l2 :: l3 :: l4 :: some (.int x) :: t) ST M h = Rn X d 87 16 (l0 :: l1 :: l2 :: l3 :: l4 :: some (.int x) :: t) (.int x :: ST) M h := r_iload mt_87 dX4_mixOrders_14 rfl
theorem e87_16 : Rn X d 87 16 (some (.ref a) :: t) ST M h = Rn X d 87 17 (some (.ref a) :: t) (.ref a :: ST) M h := r_aload_n mt_87 dX4_mixOrders_16 rfl
theorem e87_17 : Rn X d 87 17 LS (.ref a :: ST) M h = q_g X (M a) 4 0 d 87 20 LS ST M h := s_get mt_87 dX4_mixOrders_17 f_4_10
theorem e87_20 : Rn X d 87 20 LS (.ref a :: ST) M h = q_g X (M a) 2 0 d 87 23 LS ST M h := s_get mt_87 dX4_mixOrders_20 f_4_45
theorem e87_23 : Rn X d 87 23 LS (.ref a :: ST) M h = q_g X (M a) 0 2 d 87 26 LS ST M h := s_get mt_87 dX4_mixOrders_23 f_4_173
theorem e87_26 : Rn X d 87 26 LS (.int y :: .int x :: ST) M h = q_le X y x d 87 65 29 LS ST M h := s_icge mt_87 dX4_mixOrders_26 rfl
theorem e87_29 : Rn X d 87 29 LS ST M h = Rn X d 87 30 LS (.int (zN 0) :: ST) M h := r_iconst mt_87 dX4_mixOrders_29 c_ic0
theorem e87_30 (ho : j_one l5 = true) : Rn X d 87 30 (l0 :: l1 :: l2 :: l3 :: l4 :: l5 :: l6 :: t) (.int x :: ST) M h = Rn X d 87 32 (l0 :: l1 :: l2 :: l3 :: l4 :: l5 :: some (.int x) :: t) ST M h := r_istore mt_87 dX4_mixOrders_30 (by show 6 < _; simp only [List.length_cons]; omega) ho rfl
theorem e87_32 : Rn X d 87 32 (l0 :: l1 :: l2 :: l3 :: l4 :: l5 :: some (.int x) :: t) ST M h = Rn X d 87 34 (l0 :: l1 :: l2 :: l3 :: l4 :: l5 :: some (.int x) :: t) (.int x :: ST) M h := r_iload mt_87 dX4_mixOrders_32 rfl
theorem e87_34 : Rn X d 87 34 LS ST M h = Rn X d 87 36 LS (.int (zN 6) :: ST) M h := r_bipush mt_87 dX4_mixOrders_34 c_bi6
theorem e87_36 : Rn X d 87 36 LS (.int y :: .int x :: ST) M h = q_le X y x d 87 59 39 LS ST M h := s_icge mt_87 dX4_mixOrders_36 rfl
theorem e87_39 : Rn X d 87 39 (l0 :: l1 :: l2 :: some (.long p) :: t) ST M h = Rn X d 87 40 (l0 :: l1 :: l2 :: some (.long p) :: t) (.long p :: ST) M h := r_lload_n mt_87 dX4_mixOrders_39 rfl
theorem e87_40 : Rn X d 87 40 (some (.ref a) :: t) ST M h = Rn X d 87 41 (some (.ref a) :: t) (.ref a :: ST) M h := r_aload_n mt_87 dX4_mixOrders_40 rfl
theorem e87_41 : Rn X d 87 41 (l0 :: l1 :: l2 :: l3 :: l4 :: some (.int x) :: t) ST M h = Rn X d 87 43 (l0 :: l1 :: l2 :: l3 :: l4 :: some (.int x) :: t) (.int x :: ST) M h := r_iload mt_87 dX4_mixOrders_41 rfl
theorem e87_43 : Rn X d 87 43 (l0 :: l1 :: l2 :: l3 :: l4 :: l5 :: some (.int x) :: t) ST M h = Rn X d 87 45 (l0 :: l1 :: l2 :: l3 :: l4 :: l5 :: some (.int x) :: t) (.int x :: ST) M h := r_iload mt_87 dX4_mixOrders_43 rfl
theorem e87_45 (hcs : Nat.ble (j_cs ST) 8 = true) : Rn X (d + 1) 87 45 LS (.int y :: .int x :: .ref a :: ST) M h = j_rc (M a) 4 (q_k X (Rn X d 70 0 [some (.ref a), some (.int x), some (.int y)] [] M (j_h0 h)) h (d + 1) 87 48 LS ST) := s_callV mt_87 dX4_mixOrders_45 cl_4_285 mt_70 rfl rfl (Nat.le_add_left _ _) rfl rfl rfl rfl hcs
theorem e87_48 : Rn X d 87 48 LS (.int x :: ST) M h = Rn X d 87 49 LS (.long x.toInt64 :: ST) M h := r_i2l mt_87 dX4_mixOrders_48
theorem e87_49 (hcs : Nat.ble (j_cs ST) 8 = true) : Rn X (d + 1) 87 49 LS (.long q :: .long p :: ST) M h = q_k X (Rn X d 86 0 [some (.long p), none, some (.long q), none] [] M (j_h0 h)) h (d + 1) 87 52 LS ST := s_callS (Or.inl rfl) mt_87 dX4_mixOrders_49 cl_4_266 mt_86 rfl (Nat.le_add_left _ _) rfl rfl rfl rfl hcs
theorem e87_52 (ho : j_one l2 = true) : Rn X d 87 52 (l0 :: l1 :: l2 :: l3 :: l4 :: t) (.long p :: ST) M h = Rn X d 87 53 (l0 :: l1 :: l2 :: some (.long p) :: none :: t) ST M h := r_lstore_n mt_87 dX4_mixOrders_52 (by show 4 < _; simp only [List.length_cons]; omega) ho rfl
theorem e87_53 (ho : j_one l5 = true) : Rn X d 87 53 (l0 :: l1 :: l2 :: l3 :: l4 :: l5 :: some (.int x) :: t) ST M h = Rn X d 87 56 (l0 :: l1 :: l2 :: l3 :: l4 :: l5 :: some (.int (x + (zN 1))) :: t) ST M h := r_iinc mt_87 dX4_mixOrders_53 rfl (by simp only [List.length_cons]; omega) ho c_ic1 rfl
theorem e87_56 : Rn X d 87 56 LS ST M h = Rn X d 87 32 LS ST M h := r_goto mt_87 dX4_mixOrders_56 rfl
theorem e87_59 (ho : j_one l4 = true) : Rn X d 87 59 (l0 :: l1 :: l2 :: l3 :: l4 :: some (.int x) :: t) ST M h = Rn X d 87 62 (l0 :: l1 :: l2 :: l3 :: l4 :: some (.int (x + (zN 1))) :: t) ST M h := r_iinc mt_87 dX4_mixOrders_59 rfl (by simp only [List.length_cons]; omega) ho c_ic1 rfl
theorem e87_62 : Rn X d 87 62 LS ST M h = Rn X d 87 14 LS ST M h := r_goto mt_87 dX4_mixOrders_62 rfl
theorem e87_65 : Rn X d 87 65 (l0 :: l1 :: l2 :: some (.long p) :: t) ST M h = Rn X d 87 66 (l0 :: l1 :: l2 :: some (.long p) :: t) (.long p :: ST) M h := r_lload_n mt_87 dX4_mixOrders_65 rfl
theorem e87_66 : Rn X d 87 66 LS ([.long p]) M h = some (.inl (some (.long p)), M, h) := r_lret mt_87 dX4_mixOrders_66 rfl
theorem e88_0 : Rn X d 88 0 (l0 :: some (.long p) :: t) ST M h = Rn X d 88 1 (l0 :: some (.long p) :: t) (.long p :: ST) M h := r_lload_n mt_88 dX4_mixShips_0 rfl
theorem e88_1 (ho : j_one l2 = true) : Rn X d 88 1 (l0 :: l1 :: l2 :: l3 :: l4 :: t) (.long p :: ST) M h = Rn X d 88 2 (l0 :: l1 :: l2 :: some (.long p) :: none :: t) ST M h := r_lstore_n mt_88 dX4_mixShips_1 (by show 4 < _; simp only [List.length_cons]; omega) ho rfl
theorem e88_2 : Rn X d 88 2 LS ST M h = Rn X d 88 3 LS (.int (zN 0) :: ST) M h := r_iconst mt_88 dX4_mixShips_2 c_ic0
theorem e88_3 (ho : j_one l4 = true) : Rn X d 88 3 (l0 :: l1 :: l2 :: l3 :: l4 :: l5 :: t) (.int x :: ST) M h = Rn X d 88 5 (l0 :: l1 :: l2 :: l3 :: l4 :: some (.int x) :: t) ST M h := r_istore mt_88 dX4_mixShips_3 (by show 5 < _; simp only [List.length_cons]; omega) ho rfl
theorem e88_5 : Rn X d 88 5 (l0 :: l1 :: l2 :: l3 :: l4 :: some (.int x) :: t) ST M h = Rn X d 88 7 (l0 :: l1 :: l2 :: l3 :: l4 :: some (.int x) :: t) (.int x :: ST) M h := r_iload mt_88 dX4_mixShips_5 rfl
theorem e88_7 : Rn X d 88 7 LS ST M h = Rn X d 88 8 LS (.int (zN 2) :: ST) M h := r_iconst mt_88 dX4_mixShips_7 c_ic2
theorem e88_8 : Rn X d 88 8 LS (.int y :: .int x :: ST) M h = q_le X y x d 88 77 11 LS ST M h := s_icge mt_88 dX4_mixShips_8 rfl
theorem e88_11 : Rn X d 88 11 LS ST M h = Rn X d 88 12 LS (.int (zN 0) :: ST) M h := r_iconst mt_88 dX4_mixShips_11 c_ic0
theorem e88_12 (ho : j_one l5 = true) : Rn X d 88 12 (l0 :: l1 :: l2 :: l3 :: l4 :: l5 :: l6 :: t) (.int x :: ST) M h = Rn X d 88 14 (l0 :: l1 :: l2 :: l3 :: l4 :: l5 :: some (.int x) :: t) ST M h := r_istore mt_88 dX4_mixShips_12 (by show 6 < _; simp only [List.length_cons]; omega) ho rfl
theorem e88_14 : Rn X d 88 14 (l0 :: l1 :: l2 :: l3 :: l4 :: l5 :: some (.int x) :: t) ST M h = Rn X d 88 16 (l0 :: l1 :: l2 :: l3 :: l4 :: l5 :: some (.int x) :: t) (.int x :: ST) M h := r_iload mt_88 dX4_mixShips_14 rfl
theorem e88_16 : Rn X d 88 16 LS ST M h = Rn X d 88 18 LS (.int (zN 6) :: ST) M h := r_bipush mt_88 dX4_mixShips_16 c_bi6
theorem e88_18 : Rn X d 88 18 LS (.int y :: .int x :: ST) M h = q_le X y x d 88 41 21 LS ST M h := s_icge mt_88 dX4_mixShips_18 rfl
theorem e88_21 : Rn X d 88 21 (l0 :: l1 :: l2 :: some (.long p) :: t) ST M h = Rn X d 88 22 (l0 :: l1 :: l2 :: some (.long p) :: t) (.long p :: ST) M h := r_lload_n mt_88 dX4_mixShips_21 rfl
theorem e88_22 : Rn X d 88 22 (some (.ref a) :: t) ST M h = Rn X d 88 23 (some (.ref a) :: t) (.ref a :: ST) M h := r_aload_n mt_88 dX4_mixShips_22 rfl
theorem e88_23 : Rn X d 88 23 (l0 :: l1 :: l2 :: l3 :: l4 :: some (.int x) :: t) ST M h = Rn X d 88 25 (l0 :: l1 :: l2 :: l3 :: l4 :: some (.int x) :: t) (.int x :: ST) M h := r_iload mt_88 dX4_mixShips_23 rfl
theorem e88_25 : Rn X d 88 25 (l0 :: l1 :: l2 :: l3 :: l4 :: l5 :: some (.int x) :: t) ST M h = Rn X d 88 27 (l0 :: l1 :: l2 :: l3 :: l4 :: l5 :: some (.int x) :: t) (.int x :: ST) M h := r_iload mt_88 dX4_mixShips_25 rfl
theorem e88_27 (hcs : Nat.ble (j_cs ST) 8 = true) : Rn X (d + 1) 88 27 LS (.int y :: .int x :: .ref a :: ST) M h = j_rc (M a) 4 (q_k X (Rn X d 71 0 [some (.ref a), some (.int x), some (.int y), none] [] M (j_h0 h)) h (d + 1) 88 30 LS ST) := s_callV mt_88 dX4_mixShips_27 cl_4_288 mt_71 rfl rfl (Nat.le_add_left _ _) rfl rfl rfl rfl hcs
theorem e88_30 : Rn X d 88 30 LS (.int x :: ST) M h = Rn X d 88 31 LS (.long x.toInt64 :: ST) M h := r_i2l mt_88 dX4_mixShips_30
theorem e88_31 (hcs : Nat.ble (j_cs ST) 8 = true) : Rn X (d + 1) 88 31 LS (.long q :: .long p :: ST) M h = q_k X (Rn X d 86 0 [some (.long p), none, some (.long q), none] [] M (j_h0 h)) h (d + 1) 88 34 LS ST := s_callS (Or.inl rfl) mt_88 dX4_mixShips_31 cl_4_266 mt_86 rfl (Nat.le_add_left _ _) rfl rfl rfl rfl hcs
theorem e88_34 (ho : j_one l2 = true) : Rn X d 88 34 (l0 :: l1 :: l2 :: l3 :: l4 :: t) (.long p :: ST) M h = Rn X d 88 35 (l0 :: l1 :: l2 :: some (.long p) :: none :: t) ST M h := r_lstore_n mt_88 dX4_mixShips_34 (by show 4 < _; simp only [List.length_cons]; omega) ho rfl
theorem e88_35 (ho : j_one l5 = true) : Rn X d 88 35 (l0 :: l1 :: l2 :: l3 :: l4 :: l5 :: some (.int x) :: t) ST M h = Rn X d 88 38 (l0 :: l1 :: l2 :: l3 :: l4 :: l5 :: some (.int (x + (zN 1))) :: t) ST M h := r_iinc mt_88 dX4_mixShips_35 rfl (by simp only [List.length_cons]; omega) ho c_ic1 rfl
theorem e88_38 : Rn X d 88 38 LS ST M h = Rn X d 88 14 LS ST M h := r_goto mt_88 dX4_mixShips_38 rfl
theorem e88_41 : Rn X d 88 41 LS ST M h = Rn X d 88 42 LS (.int (zN 0) :: ST) M h := r_iconst mt_88 dX4_mixShips_41 c_ic0
theorem e88_42 (ho : j_one l5 = true) : Rn X d 88 42 (l0 :: l1 :: l2 :: l3 :: l4 :: l5 :: l6 :: t) (.int x :: ST) M h = Rn X d 88 44 (l0 :: l1 :: l2 :: l3 :: l4 :: l5 :: some (.int x) :: t) ST M h := r_istore mt_88 dX4_mixShips_42 (by show 6 < _; simp only [List.length_cons]; omega) ho rfl
theorem e88_44 : Rn X d 88 44 (l0 :: l1 :: l2 :: l3 :: l4 :: l5 :: some (.int x) :: t) ST M h = Rn X d 88 46 (l0 :: l1 :: l2 :: l3 :: l4 :: l5 :: some (.int x) :: t) (.int x :: ST) M h := r_iload mt_88 dX4_mixShips_44 rfl
theorem e88_46 : Rn X d 88 46 LS ST M h = Rn X d 88 48 LS (.int (zN 8) :: ST) M h := r_bipush mt_88 dX4_mixShips_46 c_bi8
theorem e88_48 : Rn X d 88 48 LS (.int y :: .int x :: ST) M h = q_le X y x d 88 71 51 LS ST M h := s_icge mt_88 dX4_mixShips_48 rfl
theorem e88_51 : Rn X d 88 51 (l0 :: l1 :: l2 :: some (.long p) :: t) ST M h = Rn X d 88 52 (l0 :: l1 :: l2 :: some (.long p) :: t) (.long p :: ST) M h := r_lload_n mt_88 dX4_mixShips_51 rfl
theorem e88_52 : Rn X d 88 52 (some (.ref a) :: t) ST M h = Rn X d 88 53 (some (.ref a) :: t) (.ref a :: ST) M h := r_aload_n mt_88 dX4_mixShips_52 rfl
theorem e88_53 : Rn X d 88 53 (l0 :: l1 :: l2 :: l3 :: l4 :: some (.int x) :: t) ST M h = Rn X d 88 55 (l0 :: l1 :: l2 :: l3 :: l4 :: some (.int x) :: t) (.int x :: ST) M h := r_iload mt_88 dX4_mixShips_53 rfl
theorem e88_55 : Rn X d 88 55 (l0 :: l1 :: l2 :: l3 :: l4 :: l5 :: some (.int x) :: t) ST M h = Rn X d 88 57 (l0 :: l1 :: l2 :: l3 :: l4 :: l5 :: some (.int x) :: t) (.int x :: ST) M h := r_iload mt_88 dX4_mixShips_55 rfl
theorem e88_57 (hcs : Nat.ble (j_cs ST) 8 = true) : Rn X (d + 1) 88 57 LS (.int y :: .int x :: .ref a :: ST) M h = j_rc (M a) 4 (q_k X (Rn X d 72 0 [some (.ref a), some (.int x), some (.int y)] [] M (j_h0 h)) h (d + 1) 88 60 LS ST) := s_callV mt_88 dX4_mixShips_57 cl_4_291 mt_72 rfl rfl (Nat.le_add_left _ _) rfl rfl rfl rfl hcs
theorem e88_60 : Rn X d 88 60 LS (.int x :: ST) M h = Rn X d 88 61 LS (.long x.toInt64 :: ST) M h := r_i2l mt_88 dX4_mixShips_60
theorem e88_61 (hcs : Nat.ble (j_cs ST) 8 = true) : Rn X (d + 1) 88 61 LS (.long q :: .long p :: ST) M h = q_k X (Rn X d 86 0 [some (.long p), none, some (.long q), none] [] M (j_h0 h)) h (d + 1) 88 64 LS ST := s_callS (Or.inl rfl) mt_88 dX4_mixShips_61 cl_4_266 mt_86 rfl (Nat.le_add_left _ _) rfl rfl rfl rfl hcs
theorem e88_64 (ho : j_one l2 = true) : Rn X d 88 64 (l0 :: l1 :: l2 :: l3 :: l4 :: t) (.long p :: ST) M h = Rn X d 88 65 (l0 :: l1 :: l2 :: some (.long p) :: none :: t) ST M h := r_lstore_n mt_88 dX4_mixShips_64 (by show 4 < _; simp only [List.length_cons]; omega) ho rfl
theorem e88_65 (ho : j_one l5 = true) : Rn X d 88 65 (l0 :: l1 :: l2 :: l3 :: l4 :: l5 :: some (.int x) :: t) ST M h = Rn X d 88 68 (l0 :: l1 :: l2 :: l3 :: l4 :: l5 :: some (.int (x + (zN 1))) :: t) ST M h := r_iinc mt_88 dX4_mixShips_65 rfl (by simp only [List.length_cons]; omega) ho c_ic1 rfl
theorem e88_68 : Rn X d 88 68 LS ST M h = Rn X d 88 44 LS ST M h := r_goto mt_88 dX4_mixShips_68 rfl
theorem e88_71 (ho : j_one l4 = true) : Rn X d 88 71 (l0 :: l1 :: l2 :: l3 :: l4 :: some (.int x) :: t) ST M h = Rn X d 88 74 (l0 :: l1 :: l2 :: l3 :: l4 :: some (.int (x + (zN 1))) :: t) ST M h := r_iinc mt_88 dX4_mixShips_71 rfl (by simp only [List.length_cons]; omega) ho c_ic1 rfl
theorem e88_74 : Rn X d 88 74 LS ST M h = Rn X d 88 5 LS ST M h := r_goto mt_88 dX4_mixShips_74 rfl
theorem e88_77 : Rn X d 88 77 (l0 :: l1 :: l2 :: some (.long p) :: t) ST M h = Rn X d 88 78 (l0 :: l1 :: l2 :: some (.long p) :: t) (.long p :: ST) M h := r_lload_n mt_88 dX4_mixShips_77 rfl
theorem e88_78 : Rn X d 88 78 LS ([.long p]) M h = some (.inl (some (.long p)), M, h) := r_lret mt_88 dX4_mixShips_78 rfl
theorem e89_0 : Rn X d 89 0 (l0 :: some (.long p) :: t) ST M h = Rn X d 89 1 (l0 :: some (.long p) :: t) (.long p :: ST) M h := r_lload_n mt_89 dX4_mixForecasts_0 rfl
theorem e89_1 (ho : j_one l2 = true) : Rn X d 89 1 (l0 :: l1 :: l2 :: l3 :: l4 :: t) (.long p :: ST) M h = Rn X d 89 2 (l0 :: l1 :: l2 :: some (.long p) :: none :: t) ST M h := r_lstore_n mt_89 dX4_mixForecasts_1 (by show 4 < _; simp only [List.length_cons]; omega) ho rfl
theorem e89_2 : Rn X d 89 2 LS ST M h = Rn X d 89 3 LS (.int (zN 0) :: ST) M h := r_iconst mt_89 dX4_mixForecasts_2 c_ic0
theorem e89_3 (ho : j_one l4 = true) : Rn X d 89 3 (l0 :: l1 :: l2 :: l3 :: l4 :: l5 :: t) (.int x :: ST) M h = Rn X d 89 5 (l0 :: l1 :: l2 :: l3 :: l4 :: some (.int x) :: t) ST M h := r_istore mt_89 dX4_mixForecasts_3 (by show 5 < _; simp only [List.length_cons]; omega) ho rfl
theorem e89_5 : Rn X d 89 5 (l0 :: l1 :: l2 :: l3 :: l4 :: some (.int x) :: t) ST M h = Rn X d 89 7 (l0 :: l1 :: l2 :: l3 :: l4 :: some (.int x) :: t) (.int x :: ST) M h := r_iload mt_89 dX4_mixForecasts_5 rfl
theorem e89_7 : Rn X d 89 7 LS ST M h = Rn X d 89 8 LS (.int (zN 2) :: ST) M h := r_iconst mt_89 dX4_mixForecasts_7 c_ic2
theorem e89_8 : Rn X d 89 8 LS (.int y :: .int x :: ST) M h = q_le X y x d 89 29 11 LS ST M h := s_icge mt_89 dX4_mixForecasts_8 rfl
theorem e89_11 : Rn X d 89 11 (l0 :: l1 :: l2 :: some (.long p) :: t) ST M h = Rn X d 89 12 (l0 :: l1 :: l2 :: some (.long p) :: t) (.long p :: ST) M h := r_lload_n mt_89 dX4_mixForecasts_11 rfl
theorem e89_12 : Rn X d 89 12 (some (.ref a) :: t) ST M h = Rn X d 89 13 (some (.ref a) :: t) (.ref a :: ST) M h := r_aload_n mt_89 dX4_mixForecasts_12 rfl
theorem e89_13 : Rn X d 89 13 (l0 :: l1 :: l2 :: l3 :: l4 :: some (.int x) :: t) ST M h = Rn X d 89 15 (l0 :: l1 :: l2 :: l3 :: l4 :: some (.int x) :: t) (.int x :: ST) M h := r_iload mt_89 dX4_mixForecasts_13 rfl
theorem e89_15 (hcs : Nat.ble (j_cs ST) 8 = true) : Rn X (d + 1) 89 15 LS (.int x :: .ref a :: ST) M h = j_rc (M a) 4 (q_k X (Rn X d 74 0 [some (.ref a), some (.int x), none] [] M (j_h0 h)) h (d + 1) 89 18 LS ST) := s_callV mt_89 dX4_mixForecasts_15 cl_4_294 mt_74 rfl rfl (Nat.le_add_left _ _) rfl rfl rfl rfl hcs
theorem e89_18 : Rn X d 89 18 LS (.int x :: ST) M h = Rn X d 89 19 LS (.long x.toInt64 :: ST) M h := r_i2l mt_89 dX4_mixForecasts_18
theorem e89_19 (hcs : Nat.ble (j_cs ST) 8 = true) : Rn X (d + 1) 89 19 LS (.long q :: .long p :: ST) M h = q_k X (Rn X d 86 0 [some (.long p), none, some (.long q), none] [] M (j_h0 h)) h (d + 1) 89 22 LS ST := s_callS (Or.inl rfl) mt_89 dX4_mixForecasts_19 cl_4_266 mt_86 rfl (Nat.le_add_left _ _) rfl rfl rfl rfl hcs
theorem e89_22 (ho : j_one l2 = true) : Rn X d 89 22 (l0 :: l1 :: l2 :: l3 :: l4 :: t) (.long p :: ST) M h = Rn X d 89 23 (l0 :: l1 :: l2 :: some (.long p) :: none :: t) ST M h := r_lstore_n mt_89 dX4_mixForecasts_22 (by show 4 < _; simp only [List.length_cons]; omega) ho rfl
theorem e89_23 (ho : j_one l4 = true) : Rn X d 89 23 (l0 :: l1 :: l2 :: l3 :: l4 :: some (.int x) :: t) ST M h = Rn X d 89 26 (l0 :: l1 :: l2 :: l3 :: l4 :: some (.int (x + (zN 1))) :: t) ST M h := r_iinc mt_89 dX4_mixForecasts_23 rfl (by simp only [List.length_cons]; omega) ho c_ic1 rfl
theorem e89_26 : Rn X d 89 26 LS ST M h = Rn X d 89 5 LS ST M h := r_goto mt_89 dX4_mixForecasts_26 rfl
theorem e89_29 : Rn X d 89 29 (l0 :: l1 :: l2 :: some (.long p) :: t) ST M h = Rn X d 89 30 (l0 :: l1 :: l2 :: some (.long p) :: t) (.long p :: ST) M h := r_lload_n mt_89 dX4_mixForecasts_29 rfl
theorem e89_30 : Rn X d 89 30 (some (.ref a) :: t) ST M h = Rn X d 89 31 (some (.ref a) :: t) (.ref a :: ST) M h := r_aload_n mt_89 dX4_mixForecasts_30 rfl
theorem e89_31 (hcs : Nat.ble (j_cs ST) 8 = true) : Rn X (d + 1) 89 31 LS (.ref a :: ST) M h = j_rc (M a) 4 (q_k X (Rn X d 77 0 [some (.ref a), none, none] [] M (j_h0 h)) h (d + 1) 89 34 LS ST) := s_callV mt_89 dX4_mixForecasts_31 cl_4_297 mt_77 rfl rfl (Nat.le_add_left _ _) rfl rfl rfl rfl hcs
theorem e89_34 : Rn X d 89 34 LS (.int x :: ST) M h = Rn X d 89 35 LS (.long x.toInt64 :: ST) M h := r_i2l mt_89 dX4_mixForecasts_34
theorem e89_35 (hcs : Nat.ble (j_cs ST) 8 = true) : Rn X (d + 1) 89 35 LS (.long q :: .long p :: ST) M h = q_k X (Rn X d 86 0 [some (.long p), none, some (.long q), none] [] M (j_h0 h)) h (d + 1) 89 38 LS ST := s_callS (Or.inl rfl) mt_89 dX4_mixForecasts_35 cl_4_266 mt_86 rfl (Nat.le_add_left _ _) rfl rfl rfl rfl hcs
theorem e89_38 (ho : j_one l2 = true) : Rn X d 89 38 (l0 :: l1 :: l2 :: l3 :: l4 :: t) (.long p :: ST) M h = Rn X d 89 39 (l0 :: l1 :: l2 :: some (.long p) :: none :: t) ST M h := r_lstore_n mt_89 dX4_mixForecasts_38 (by show 4 < _; simp only [List.length_cons]; omega) ho rfl
theorem e89_39 : Rn X d 89 39 LS ST M h = Rn X d 89 40 LS (.int (zN 0) :: ST) M h := r_iconst mt_89 dX4_mixForecasts_39 c_ic0
theorem e89_40 (ho : j_one l4 = true) : Rn X d 89 40 (l0 :: l1 :: l2 :: l3 :: l4 :: l5 :: t) (.int x :: ST) M h = Rn X d 89 42 (l0 :: l1 :: l2 :: l3 :: l4 :: some (.int x) :: t) ST M h := r_istore mt_89 dX4_mixForecasts_40 (by show 5 < _; simp only [List.length_cons]; omega) ho rfl
theorem e89_42 : Rn X d 89 42 (l0 :: l1 :: l2 :: l3 :: l4 :: some (.int x) :: t) ST M h = Rn X d 89 44 (l0 :: l1 :: l2 :: l3 :: l4 :: some (.int x) :: t) (.int x :: ST) M h := r_iload mt_89 dX4_mixForecasts_42 rfl
theorem e89_44 : Rn X d 89 44 LS ST M h = Rn X d 89 46 LS (.int (zN 8) :: ST) M h := r_bipush mt_89 dX4_mixForecasts_44 c_bi8
theorem e89_46 : Rn X d 89 46 LS (.int y :: .int x :: ST) M h = q_le X y x d 89 77 49 LS ST M h := s_icge mt_89 dX4_mixForecasts_46 rfl
theorem e89_49 : Rn X d 89 49 (l0 :: l1 :: l2 :: some (.long p) :: t) ST M h = Rn X d 89 50 (l0 :: l1 :: l2 :: some (.long p) :: t) (.long p :: ST) M h := r_lload_n mt_89 dX4_mixForecasts_49 rfl
theorem e89_50 : Rn X d 89 50 (some (.ref a) :: t) ST M h = Rn X d 89 51 (some (.ref a) :: t) (.ref a :: ST) M h := r_aload_n mt_89 dX4_mixForecasts_50 rfl
theorem e89_51 : Rn X d 89 51 (some (.ref a) :: t) ST M h = Rn X d 89 52 (some (.ref a) :: t) (.ref a :: ST) M h := r_aload_n mt_89 dX4_mixForecasts_51 rfl
theorem e89_52 : Rn X d 89 52 LS (.ref a :: ST) M h = q_g X (M a) 4 0 d 89 55 LS ST M h := s_get mt_89 dX4_mixForecasts_52 f_4_10
theorem e89_55 : Rn X d 89 55 LS (.ref a :: ST) M h = q_g X (M a) 2 0 d 89 58 LS ST M h := s_get mt_89 dX4_mixForecasts_55 f_4_45
theorem e89_58 : Rn X d 89 58 LS (.ref a :: ST) M h = q_g X (M a) 0 2 d 89 61 LS ST M h := s_get mt_89 dX4_mixForecasts_58 f_4_173
theorem e89_61 : Rn X d 89 61 (l0 :: l1 :: l2 :: l3 :: l4 :: some (.int x) :: t) ST M h = Rn X d 89 63 (l0 :: l1 :: l2 :: l3 :: l4 :: some (.int x) :: t) (.int x :: ST) M h := r_iload mt_89 dX4_mixForecasts_61 rfl
theorem e89_63 (hcs : Nat.ble (j_cs ST) 8 = true) : Rn X (d + 1) 89 63 LS (.int y :: .int x :: .ref a :: ST) M h = j_rc (M a) 4 (q_k X (Rn X d 76 0 [some (.ref a), some (.int x), some (.int y), none, none] [] M (j_h0 h)) h (d + 1) 89 66 LS ST) := s_callV mt_89 dX4_mixForecasts_63 cl_4_300 mt_76 rfl rfl (Nat.le_add_left _ _) rfl rfl rfl rfl hcs
theorem e89_66 : Rn X d 89 66 LS (.int x :: ST) M h = Rn X d 89 67 LS (.long x.toInt64 :: ST) M h := r_i2l mt_89 dX4_mixForecasts_66
theorem e89_67 (hcs : Nat.ble (j_cs ST) 8 = true) : Rn X (d + 1) 89 67 LS (.long q :: .long p :: ST) M h = q_k X (Rn X d 86 0 [some (.long p), none, some (.long q), none] [] M (j_h0 h)) h (d + 1) 89 70 LS ST := s_callS (Or.inl rfl) mt_89 dX4_mixForecasts_67 cl_4_266 mt_86 rfl (Nat.le_add_left _ _) rfl rfl rfl rfl hcs
theorem e89_70 (ho : j_one l2 = true) : Rn X d 89 70 (l0 :: l1 :: l2 :: l3 :: l4 :: t) (.long p :: ST) M h = Rn X d 89 71 (l0 :: l1 :: l2 :: some (.long p) :: none :: t) ST M h := r_lstore_n mt_89 dX4_mixForecasts_70 (by show 4 < _; simp only [List.length_cons]; omega) ho rfl
theorem e89_71 (ho : j_one l4 = true) : Rn X d 89 71 (l0 :: l1 :: l2 :: l3 :: l4 :: some (.int x) :: t) ST M h = Rn X d 89 74 (l0 :: l1 :: l2 :: l3 :: l4 :: some (.int (x + (zN 1))) :: t) ST M h := r_iinc mt_89 dX4_mixForecasts_71 rfl (by simp only [List.length_cons]; omega) ho c_ic1 rfl
theorem e89_74 : Rn X d 89 74 LS ST M h = Rn X d 89 42 LS ST M h := r_goto mt_89 dX4_mixForecasts_74 rfl
theorem e89_77 : Rn X d 89 77 (l0 :: l1 :: l2 :: some (.long p) :: t) ST M h = Rn X d 89 78 (l0 :: l1 :: l2 :: some (.long p) :: t) (.long p :: ST) M h := r_lload_n mt_89 dX4_mixForecasts_77 rfl
theorem e89_78 : Rn X d 89 78 LS ([.long p]) M h = some (.inl (some (.long p)), M, h) := r_lret mt_89 dX4_mixForecasts_78 rfl
theorem e90_0 : Rn X d 90 0 (some (.int x) :: t) ST M h = Rn X d 90 1 (some (.int x) :: t) (.int x :: ST) M h := r_iload_n mt_90 dX4_isOrder_0 rfl
theorem e90_1 : Rn X d 90 1 LS (.int x :: ST) M h = q_lt X x (zN 0) d 90 50 4 LS ST M h := s_iflt mt_90 dX4_isOrder_1 rfl
theorem e90_4 : Rn X d 90 4 (some (.int x) :: t) ST M h = Rn X d 90 5 (some (.int x) :: t) (.int x :: ST) M h := r_iload_n mt_90 dX4_isOrder_4 rfl
theorem e90_5 : Rn X d 90 5 LS ST M h = Rn X d 90 6 LS (.int (zN 4) :: ST) M h := r_iconst mt_90 dX4_isOrder_5 c_ic4
theorem e90_6 : Rn X d 90 6 LS (.int y :: .int x :: ST) M h = q_lt X y x d 90 50 9 LS ST M h := s_icgt mt_90 dX4_isOrder_6 rfl
theorem e90_9 : Rn X d 90 9 (l0 :: some (.int x) :: t) ST M h = Rn X d 90 10 (l0 :: some (.int x) :: t) (.int x :: ST) M h := r_iload_n mt_90 dX4_isOrder_9 rfl
theorem e90_10 (hcs : Nat.ble (j_cs ST) 8 = true) : Rn X (d + 1) 90 10 LS (.int x :: ST) M h = q_k X (Rn X d 92 0 [some (.int x)] [] M (j_h0 h)) h (d + 1) 90 13 LS ST := s_callS (Or.inl rfl) mt_90 dX4_isOrder_10 cl_4_303 mt_92 rfl (Nat.le_add_left _ _) rfl rfl rfl rfl hcs
theorem e90_13 : Rn X d 90 13 LS (.int x :: ST) M h = q_eq X x (zN 0) d 90 50 16 LS ST M h := s_ifeq mt_90 dX4_isOrder_13 rfl
theorem e90_16 : Rn X d 90 16 (l0 :: l1 :: some (.int x) :: t) ST M h = Rn X d 90 17 (l0 :: l1 :: some (.int x) :: t) (.int x :: ST) M h := r_iload_n mt_90 dX4_isOrder_16 rfl
theorem e90_17 (hcs : Nat.ble (j_cs ST) 8 = true) : Rn X (d + 1) 90 17 LS (.int x :: ST) M h = q_k X (Rn X d 92 0 [some (.int x)] [] M (j_h0 h)) h (d + 1) 90 20 LS ST := s_callS (Or.inl rfl) mt_90 dX4_isOrder_17 cl_4_303 mt_92 rfl (Nat.le_add_left _ _) rfl rfl rfl rfl hcs
theorem e90_20 : Rn X d 90 20 LS (.int x :: ST) M h = q_eq X x (zN 0) d 90 50 23 LS ST M h := s_ifeq mt_90 dX4_isOrder_20 rfl
theorem e90_23 : Rn X d 90 23 (l0 :: l1 :: l2 :: some (.int x) :: t) ST M h = Rn X d 90 24 (l0 :: l1 :: l2 :: some (.int x) :: t) (.int x :: ST) M h := r_iload_n mt_90 dX4_isOrder_23 rfl
theorem e90_24 : Rn X d 90 24 LS ST M h = Rn X d 90 25 LS (.int (zN 1) :: ST) M h := r_iconst mt_90 dX4_isOrder_24 c_ic1
theorem e90_25 : Rn X d 90 25 LS (.int y :: .int x :: ST) M h = q_lt X x y d 90 50 28 LS ST M h := s_iclt mt_90 dX4_isOrder_25 rfl
theorem e90_28 : Rn X d 90 28 (l0 :: l1 :: l2 :: some (.int x) :: t) ST M h = Rn X d 90 29 (l0 :: l1 :: l2 :: some (.int x) :: t) (.int x :: ST) M h := r_iload_n mt_90 dX4_isOrder_28 rfl
theorem e90_29 : Rn X d 90 29 LS ST M h = Rn X d 90 31 LS (.int (zN 99) :: ST) M h := r_bipush mt_90 dX4_isOrder_29 c_bi99
theorem e90_31 : Rn X d 90 31 LS (.int y :: .int x :: ST) M h = q_lt X y x d 90 50 34 LS ST M h := s_icgt mt_90 dX4_isOrder_31 rfl
theorem e90_34 : Rn X d 90 34 (some (.int x) :: t) ST M h = Rn X d 90 35 (some (.int x) :: t) (.int x :: ST) M h := r_iload_n mt_90 dX4_isOrder_34 rfl
theorem e90_35 (hcs : Nat.ble (j_cs ST) 8 = true) : Rn X (d + 1) 90 35 LS (.int x :: ST) M h = q_k X (Rn X d 91 0 [some (.int x)] [] M (j_h0 h)) h (d + 1) 90 38 LS ST := s_callS (Or.inl rfl) mt_90 dX4_isOrder_35 cl_4_307 mt_91 rfl (Nat.le_add_left _ _) rfl rfl rfl rfl hcs
theorem e90_38 : Rn X d 90 38 LS (.int x :: ST) M h = q_eq X x (zN 0) d 90 46 41 LS ST M h := s_ifeq mt_90 dX4_isOrder_38 rfl
theorem e90_41 : Rn X d 90 41 (l0 :: some (.int x) :: t) ST M h = Rn X d 90 42 (l0 :: some (.int x) :: t) (.int x :: ST) M h := r_iload_n mt_90 dX4_isOrder_41 rfl
theorem e90_42 : Rn X d 90 42 (l0 :: l1 :: some (.int x) :: t) ST M h = Rn X d 90 43 (l0 :: l1 :: some (.int x) :: t) (.int x :: ST) M h := r_iload_n mt_90 dX4_isOrder_42 rfl
theorem e90_43 : Rn X d 90 43 LS (.int y :: .int x :: ST) M h = q_eq X x y d 90 50 46 LS ST M h := s_iceq mt_90 dX4_isOrder_43 rfl
theorem e90_46 : Rn X d 90 46 LS ST M h = Rn X d 90 47 LS (.int (zN 1) :: ST) M h := r_iconst mt_90 dX4_isOrder_46 c_ic1
theorem e90_47 : Rn X d 90 47 LS ST M h = Rn X d 90 51 LS ST M h := r_goto mt_90 dX4_isOrder_47 rfl
theorem e90_50 : Rn X d 90 50 LS ST M h = Rn X d 90 51 LS (.int (zN 0) :: ST) M h := r_iconst mt_90 dX4_isOrder_50 c_ic0
theorem e90_51 {v : Nat} (h0 : v < 2) : Rn X d 90 51 LS ([.int (zN v)]) M h = some (.inl (some (.int (zN v))), M, h) := s_zret mt_90 dX4_isOrder_51 rfl h0
theorem e91_0 : Rn X d 91 0 (some (.int x) :: t) ST M h = Rn X d 91 1 (some (.int x) :: t) (.int x :: ST) M h := r_iload_n mt_91 dX4_usesHoldB_0 rfl
theorem e91_1 : Rn X d 91 1 LS ST M h = Rn X d 91 2 LS (.int (zN 2) :: ST) M h := r_iconst mt_91 dX4_usesHoldB_1 c_ic2
theorem e91_2 : Rn X d 91 2 LS (.int y :: .int x :: ST) M h = q_lt X x y d 91 9 5 LS ST M h := s_iclt mt_91 dX4_usesHoldB_2 rfl
theorem e91_5 : Rn X d 91 5 LS ST M h = Rn X d 91 6 LS (.int (zN 1) :: ST) M h := r_iconst mt_91 dX4_usesHoldB_5 c_ic1
theorem e91_6 : Rn X d 91 6 LS ST M h = Rn X d 91 10 LS ST M h := r_goto mt_91 dX4_usesHoldB_6 rfl
theorem e91_9 : Rn X d 91 9 LS ST M h = Rn X d 91 10 LS (.int (zN 0) :: ST) M h := r_iconst mt_91 dX4_usesHoldB_9 c_ic0
theorem e91_10 {v : Nat} (h0 : v < 2) : Rn X d 91 10 LS ([.int (zN v)]) M h = some (.inl (some (.int (zN v))), M, h) := s_zret mt_91 dX4_usesHoldB_10 rfl h0
theorem e92_0 : Rn X d 92 0 (some (.int x) :: t) ST M h = Rn X d 92 1 (some (.int x) :: t) (.int x :: ST) M h := r_iload_n mt_92 dX4_isHold_0 rfl
theorem e92_1 : Rn X d 92 1 LS (.int x :: ST) M h = q_lt X x (zN 0) d 92 14 4 LS ST M h := s_iflt mt_92 dX4_isHold_1 rfl
theorem e92_4 : Rn X d 92 4 (some (.int x) :: t) ST M h = Rn X d 92 5 (some (.int x) :: t) (.int x :: ST) M h := r_iload_n mt_92 dX4_isHold_4 rfl
theorem e92_5 : Rn X d 92 5 LS ST M h = Rn X d 92 7 LS (.int (zN 8) :: ST) M h := r_bipush mt_92 dX4_isHold_5 c_bi8
theorem e92_7 : Rn X d 92 7 LS (.int y :: .int x :: ST) M h = q_le X y x d 92 14 10 LS ST M h := s_icge mt_92 dX4_isHold_7 rfl
theorem e92_10 : Rn X d 92 10 LS ST M h = Rn X d 92 11 LS (.int (zN 1) :: ST) M h := r_iconst mt_92 dX4_isHold_10 c_ic1
theorem e92_11 : Rn X d 92 11 LS ST M h = Rn X d 92 15 LS ST M h := r_goto mt_92 dX4_isHold_11 rfl
theorem e92_14 : Rn X d 92 14 LS ST M h = Rn X d 92 15 LS (.int (zN 0) :: ST) M h := r_iconst mt_92 dX4_isHold_14 c_ic0
theorem e92_15 {v : Nat} (h0 : v < 2) : Rn X d 92 15 LS ([.int (zN v)]) M h = some (.inl (some (.int (zN v))), M, h) := s_zret mt_92 dX4_isHold_15 rfl h0
theorem e93_0 : Rn X d 93 0 (some (.int x) :: t) ST M h = Rn X d 93 1 (some (.int x) :: t) (.int x :: ST) M h := r_iload_n mt_93 dX4_requireHold_0 rfl
theorem e93_1 (hcs : Nat.ble (j_cs ST) 8 = true) : Rn X (d + 1) 93 1 LS (.int x :: ST) M h = q_k X (Rn X d 92 0 [some (.int x)] [] M (j_h0 h)) h (d + 1) 93 4 LS ST := s_callS (Or.inl rfl) mt_93 dX4_requireHold_1 cl_4_303 mt_92 rfl (Nat.le_add_left _ _) rfl rfl rfl rfl hcs
theorem e93_4 : Rn X d 93 4 LS (.int x :: ST) M h = q_eq X x (zN 0) d 93 7 18 LS ST M h := s_ifne mt_93 dX4_requireHold_4 rfl
theorem e93_7 : Rn X (d + 6) 93 7 LS [] M h = some (.inr "java/lang/IndexOutOfBoundsException", M, j_thr h) := r_throwW mt_93 dX4_requireHold_7 tl_4_310 rfl dX4_requireHold_10 dX4_requireHold_11 sr_4_312 dX4_requireHold_14 dX4_requireHold_17
theorem e93_18 : Rn X d 93 18 LS [] M h = some (.inl none, M, h) := r_vret mt_93 dX4_requireHold_18 rfl
theorem e94_0 : Rn X d 94 0 (some (.int x) :: t) ST M h = Rn X d 94 1 (some (.int x) :: t) (.int x :: ST) M h := r_iload_n mt_94 dX4_requireShip_0 rfl
theorem e94_1 : Rn X d 94 1 LS (.int x :: ST) M h = q_lt X x (zN 0) d 94 9 4 LS ST M h := s_iflt mt_94 dX4_requireShip_1 rfl
theorem e94_4 : Rn X d 94 4 (some (.int x) :: t) ST M h = Rn X d 94 5 (some (.int x) :: t) (.int x :: ST) M h := r_iload_n mt_94 dX4_requireShip_4 rfl
theorem e94_5 : Rn X d 94 5 LS ST M h = Rn X d 94 6 LS (.int (zN 2) :: ST) M h := r_iconst mt_94 dX4_requireShip_5 c_ic2
theorem e94_6 : Rn X d 94 6 LS (.int y :: .int x :: ST) M h = q_lt X x y d 94 20 9 LS ST M h := s_iclt mt_94 dX4_requireShip_6 rfl
theorem e94_9 : Rn X (d + 6) 94 9 LS [] M h = some (.inr "java/lang/IndexOutOfBoundsException", M, j_thr h) := r_throwW mt_94 dX4_requireShip_9 tl_4_310 rfl dX4_requireShip_12 dX4_requireShip_13 sr_4_315 dX4_requireShip_16 dX4_requireShip_19
theorem e94_20 : Rn X d 94 20 LS [] M h = some (.inl none, M, h) := r_vret mt_94 dX4_requireShip_20 rfl
theorem e95_0 : Rn X d 95 0 (some (.ref a) :: t) ST M h = Rn X d 95 1 (some (.ref a) :: t) (.ref a :: ST) M h := r_aload_n mt_95 dX4_requireKept_0 rfl
theorem e95_1 : Rn X d 95 1 LS (.ref a :: ST) M h = q_g X (M a) 4 0 d 95 4 LS ST M h := s_get mt_95 dX4_requireKept_1 f_4_10
theorem e95_4 : Rn X d 95 4 LS (.ref a :: ST) M h = q_g X (M a) 2 0 d 95 7 LS ST M h := s_get mt_95 dX4_requireKept_4 f_4_45
theorem e95_7 : Rn X d 95 7 (l0 :: some (.int x) :: t) ST M h = Rn X d 95 8 (l0 :: some (.int x) :: t) (.int x :: ST) M h := r_iload_n mt_95 dX4_requireKept_7 rfl
theorem e95_8 (hcs : Nat.ble (j_cs ST) 8 = true) : Rn X (d + 1) 95 8 LS (.int x :: .ref a :: ST) M h = j_rc (M a) 0 (q_k X (Rn X d 6 0 [some (.ref a), some (.int x)] [] M (j_h0 h)) h (d + 1) 95 11 LS ST) := s_callV mt_95 dX4_requireKept_8 cl_4_317 mt_6 rfl rfl (Nat.le_add_left _ _) rfl rfl rfl rfl hcs
theorem e95_11 : Rn X d 95 11 LS (.int x :: ST) M h = q_eq X x (zN 0) d 95 14 25 LS ST M h := s_ifne mt_95 dX4_requireKept_11 rfl
theorem e95_14 : Rn X (d + 6) 95 14 LS [] M h = some (.inr "java/lang/IndexOutOfBoundsException", M, j_thr h) := r_throwW mt_95 dX4_requireKept_14 tl_4_310 rfl dX4_requireKept_17 dX4_requireKept_18 sr_4_320 dX4_requireKept_21 dX4_requireKept_24
theorem e95_25 : Rn X d 95 25 LS [] M h = some (.inl none, M, h) := r_vret mt_95 dX4_requireKept_25 rfl
theorem e96_0 : Rn X d 96 0 (some (.ref a) :: t) ST M h = Rn X d 96 1 (some (.ref a) :: t) (.ref a :: ST) M h := r_aload_n mt_96 dX4_saveState_0 rfl
theorem e96_1 : Rn X d 96 1 LS (.ref a :: ST) M h = q_g X (M a) 4 2 d 96 4 LS ST M h := s_get mt_96 dX4_saveState_1 f_4_20
theorem e96_4 : Rn X d 96 4 LS ST M h = Rn X d 96 5 LS (.int (zN 4) :: ST) M h := r_iconst mt_96 dX4_saveState_4 c_ic4
theorem e96_5 : Rn X d 96 5 LS (.int y :: .int x :: ST) M h = q_lt X x y d 96 54 8 LS ST M h := s_iclt mt_96 dX4_saveState_5 rfl
theorem e96_8 : Rn X d 96 8 (some (.ref a) :: t) ST M h = Rn X d 96 9 (some (.ref a) :: t) (.ref a :: ST) M h := r_aload_n mt_96 dX4_saveState_8 rfl
theorem e96_9 : Rn X d 96 9 LS (.ref a :: ST) M h = q_g X (M a) 4 1 d 96 12 LS ST M h := s_get mt_96 dX4_saveState_9 f_4_16
theorem e96_12 : Rn X d 96 12 LS ST M h = Rn X d 96 13 LS (.int (zN 0) :: ST) M h := r_iconst mt_96 dX4_saveState_12 c_ic0
theorem e96_13 : Rn X d 96 13 LS (.int x :: .ref a :: ST) M h = q_lQ X (M a) x d 96 14 LS ST M h := s_aald mt_96 dX4_saveState_13
theorem e96_14 (ho : j_one l0 = true) : Rn X d 96 14 (l0 :: l1 :: t) (.ref a :: ST) M h = Rn X d 96 15 (l0 :: some (.ref a) :: t) ST M h := r_astore_n mt_96 dX4_saveState_14 (by show 1 < _; simp only [List.length_cons]; omega) ho rfl
theorem e96_15 : Rn X d 96 15 LS ST M h = Rn X d 96 16 LS (.int (zN 1) :: ST) M h := r_iconst mt_96 dX4_saveState_15 c_ic1
theorem e96_16 (ho : j_one l1 = true) : Rn X d 96 16 (l0 :: l1 :: l2 :: t) (.int x :: ST) M h = Rn X d 96 17 (l0 :: l1 :: some (.int x) :: t) ST M h := r_istore_n mt_96 dX4_saveState_16 (by show 2 < _; simp only [List.length_cons]; omega) ho rfl
theorem e96_17 : Rn X d 96 17 (l0 :: l1 :: some (.int x) :: t) ST M h = Rn X d 96 18 (l0 :: l1 :: some (.int x) :: t) (.int x :: ST) M h := r_iload_n mt_96 dX4_saveState_17 rfl
theorem e96_18 : Rn X d 96 18 LS ST M h = Rn X d 96 19 LS (.int (zN 4) :: ST) M h := r_iconst mt_96 dX4_saveState_18 c_ic4
theorem e96_19 : Rn X d 96 19 LS (.int y :: .int x :: ST) M h = q_le X y x d 96 42 22 LS ST M h := s_icge mt_96 dX4_saveState_19 rfl
theorem e96_22 : Rn X d 96 22 (some (.ref a) :: t) ST M h = Rn X d 96 23 (some (.ref a) :: t) (.ref a :: ST) M h := r_aload_n mt_96 dX4_saveState_22 rfl
theorem e96_23 : Rn X d 96 23 LS (.ref a :: ST) M h = q_g X (M a) 4 1 d 96 26 LS ST M h := s_get mt_96 dX4_saveState_23 f_4_16
theorem e96_26 : Rn X d 96 26 (l0 :: l1 :: some (.int x) :: t) ST M h = Rn X d 96 27 (l0 :: l1 :: some (.int x) :: t) (.int x :: ST) M h := r_iload_n mt_96 dX4_saveState_26 rfl
theorem e96_27 : Rn X d 96 27 LS ST M h = Rn X d 96 28 LS (.int (zN 1) :: ST) M h := r_iconst mt_96 dX4_saveState_27 c_ic1
theorem e96_28 : Rn X d 96 28 LS (.int y :: .int x :: ST) M h = Rn X d 96 29 LS (.int (x - y) :: ST) M h := r_isub mt_96 dX4_saveState_28
theorem e96_29 : Rn X d 96 29 (some (.ref a) :: t) ST M h = Rn X d 96 30 (some (.ref a) :: t) (.ref a :: ST) M h := r_aload_n mt_96 dX4_saveState_29 rfl
theorem e96_30 : Rn X d 96 30 LS (.ref a :: ST) M h = q_g X (M a) 4 1 d 96 33 LS ST M h := s_get mt_96 dX4_saveState_30 f_4_16
theorem e96_33 : Rn X d 96 33 (l0 :: l1 :: some (.int x) :: t) ST M h = Rn X d 96 34 (l0 :: l1 :: some (.int x) :: t) (.int x :: ST) M h := r_iload_n mt_96 dX4_saveState_33 rfl
theorem e96_34 : Rn X d 96 34 LS (.int x :: .ref a :: ST) M h = q_lQ X (M a) x d 96 35 LS ST M h := s_aald mt_96 dX4_saveState_34
theorem e96_35 : Rn X d 96 35 LS (.ref b :: .int x :: .ref a :: ST) M h = q_sQ X (M a) (M b) a x b d 96 36 LS ST M h := s_aast mt_96 dX4_saveState_35
theorem e96_36 (ho : j_one l1 = true) : Rn X d 96 36 (l0 :: l1 :: some (.int x) :: t) ST M h = Rn X d 96 39 (l0 :: l1 :: some (.int (x + (zN 1))) :: t) ST M h := r_iinc mt_96 dX4_saveState_36 rfl (by simp only [List.length_cons]; omega) ho c_ic1 rfl
theorem e96_39 : Rn X d 96 39 LS ST M h = Rn X d 96 17 LS ST M h := r_goto mt_96 dX4_saveState_39 rfl
theorem e96_42 : Rn X d 96 42 (some (.ref a) :: t) ST M h = Rn X d 96 43 (some (.ref a) :: t) (.ref a :: ST) M h := r_aload_n mt_96 dX4_saveState_42 rfl
theorem e96_43 : Rn X d 96 43 LS (.ref a :: ST) M h = q_g X (M a) 4 1 d 96 46 LS ST M h := s_get mt_96 dX4_saveState_43 f_4_16
theorem e96_46 : Rn X d 96 46 LS ST M h = Rn X d 96 47 LS (.int (zN 3) :: ST) M h := r_iconst mt_96 dX4_saveState_46 c_ic3
theorem e96_47 : Rn X d 96 47 (l0 :: some (.ref a) :: t) ST M h = Rn X d 96 48 (l0 :: some (.ref a) :: t) (.ref a :: ST) M h := r_aload_n mt_96 dX4_saveState_47 rfl
theorem e96_48 : Rn X d 96 48 LS (.ref b :: .int x :: .ref a :: ST) M h = q_sQ X (M a) (M b) a x b d 96 49 LS ST M h := s_aast mt_96 dX4_saveState_48
theorem e96_49 : Rn X d 96 49 (some (.ref a) :: t) ST M h = Rn X d 96 50 (some (.ref a) :: t) (.ref a :: ST) M h := r_aload_n mt_96 dX4_saveState_49 rfl
theorem e96_50 : Rn X d 96 50 LS ST M h = Rn X d 96 51 LS (.int (zN 3) :: ST) M h := r_iconst mt_96 dX4_saveState_50 c_ic3
theorem e96_51 : Rn X d 96 51 LS (.int x :: .ref a :: ST) M h = q_p X (M a) a 4 2 (.int x) d 96 54 LS ST M h := s_putN mt_96 dX4_saveState_51 f_4_20 rfl rfl rfl
theorem e96_54 : Rn X d 96 54 (some (.ref a) :: t) ST M h = Rn X d 96 55 (some (.ref a) :: t) (.ref a :: ST) M h := r_aload_n mt_96 dX4_saveState_54 rfl
theorem e96_55 : Rn X d 96 55 LS (.ref a :: ST) M h = q_g X (M a) 4 1 d 96 58 LS ST M h := s_get mt_96 dX4_saveState_55 f_4_16
theorem e96_58 : Rn X d 96 58 (some (.ref a) :: t) ST M h = Rn X d 96 59 (some (.ref a) :: t) (.ref a :: ST) M h := r_aload_n mt_96 dX4_saveState_58 rfl
theorem e96_59 : Rn X d 96 59 LS (.ref a :: ST) M h = q_g X (M a) 4 2 d 96 62 LS ST M h := s_get mt_96 dX4_saveState_59 f_4_20
theorem e96_62 : Rn X d 96 62 LS (.int x :: .ref a :: ST) M h = q_lQ X (M a) x d 96 63 LS ST M h := s_aald mt_96 dX4_saveState_62
theorem e96_63 : Rn X d 96 63 (some (.ref a) :: t) ST M h = Rn X d 96 64 (some (.ref a) :: t) (.ref a :: ST) M h := r_aload_n mt_96 dX4_saveState_63 rfl
theorem e96_64 : Rn X d 96 64 LS (.ref a :: ST) M h = q_g X (M a) 4 0 d 96 67 LS ST M h := s_get mt_96 dX4_saveState_64 f_4_10
theorem e96_67 (hcs : Nat.ble (j_cs ST) 8 = true) : Rn X (d + 1) 96 67 LS (.ref b :: .ref a :: ST) M h = j_rc (M a) 2 (q_k X (Rn X d 33 0 [some (.ref a), some (.ref b)] [] M (j_h0 h)) h (d + 1) 96 70 LS ST) := s_callV mt_96 dX4_saveState_67 cl_4_257 mt_33 rfl rfl (Nat.le_add_left _ _) rfl rfl rfl rfl hcs
theorem e96_70 : Rn X d 96 70 (some (.ref a) :: t) ST M h = Rn X d 96 71 (some (.ref a) :: t) (.ref a :: ST) M h := r_aload_n mt_96 dX4_saveState_70 rfl
theorem e96_71 : Rn X d 96 71 LS (.int x :: ST) M h = Rn X d 96 72 LS (.int x :: .int x :: ST) M h := r_dup mt_96 dX4_saveState_71 rfl
theorem e96_71r : Rn X d 96 71 LS (.ref a :: ST) M h = Rn X d 96 72 LS (.ref a :: .ref a :: ST) M h := r_dup mt_96 dX4_saveState_71 rfl
theorem e96_72 : Rn X d 96 72 LS (.ref a :: ST) M h = q_g X (M a) 4 2 d 96 75 LS ST M h := s_get mt_96 dX4_saveState_72 f_4_20
theorem e96_75 : Rn X d 96 75 LS ST M h = Rn X d 96 76 LS (.int (zN 1) :: ST) M h := r_iconst mt_96 dX4_saveState_75 c_ic1
theorem e96_76 : Rn X d 96 76 LS (.int y :: .int x :: ST) M h = Rn X d 96 77 LS (.int (x + y) :: ST) M h := r_iadd mt_96 dX4_saveState_76
theorem e96_77 : Rn X d 96 77 LS (.int x :: .ref a :: ST) M h = q_p X (M a) a 4 2 (.int x) d 96 80 LS ST M h := s_putN mt_96 dX4_saveState_77 f_4_20 rfl rfl rfl
theorem e96_80 : Rn X d 96 80 LS [] M h = some (.inl none, M, h) := r_vret mt_96 dX4_saveState_80 rfl
theorem e97_0 : Rn X d 97 0 (some (.ref a) :: t) ST M h = Rn X d 97 1 (some (.ref a) :: t) (.ref a :: ST) M h := r_aload_n mt_97 dX4_obeyCommand_0 rfl
theorem e97_1 : Rn X d 97 1 LS (.ref a :: ST) M h = q_g X (M a) 4 3 d 97 4 LS ST M h := s_get mt_97 dX4_obeyCommand_1 f_4_27
theorem e97_4 : Rn X d 97 4 LS (.ref a :: ST) M h = q_g X (M a) 3 3 d 97 7 LS ST M h := s_get mt_97 dX4_obeyCommand_4 f_4_322
theorem e97_7_99 : Rn X d 97 7 LS (.int (zN 99) :: ST) M h = Rn X d 97 166 LS ST M h := s_tab (off := 159) mt_97 dX4_obeyCommand_7 (by decide) (by decide) (by decide +kernel) rfl
theorem e97_7_100 : Rn X d 97 7 LS (.int (zN 100) :: ST) M h = Rn X d 97 186 LS ST M h := s_tab (off := 179) mt_97 dX4_obeyCommand_7 (by decide) (by decide) (by decide +kernel) rfl
theorem e97_7_101 : Rn X d 97 7 LS (.int (zN 101) :: ST) M h = Rn X d 97 186 LS ST M h := s_tab (off := 179) mt_97 dX4_obeyCommand_7 (by decide) (by decide) (by decide +kernel) rfl
theorem e97_7_102 : Rn X d 97 7 LS (.int (zN 102) :: ST) M h = Rn X d 97 186 LS ST M h := s_tab (off := 179) mt_97 dX4_obeyCommand_7 (by decide) (by decide) (by decide +kernel) rfl
theorem e97_7_103 : Rn X d 97 7 LS (.int (zN 103) :: ST) M h = Rn X d 97 186 LS ST M h := s_tab (off := 179) mt_97 dX4_obeyCommand_7 (by decide) (by decide) (by decide +kernel) rfl
theorem e97_7_104 : Rn X d 97 7 LS (.int (zN 104) :: ST) M h = Rn X d 97 186 LS ST M h := s_tab (off := 179) mt_97 dX4_obeyCommand_7 (by decide) (by decide) (by decide +kernel) rfl
theorem e97_7_105 : Rn X d 97 7 LS (.int (zN 105) :: ST) M h = Rn X d 97 186 LS ST M h := s_tab (off := 179) mt_97 dX4_obeyCommand_7 (by decide) (by decide) (by decide +kernel) rfl
theorem e97_7_106 : Rn X d 97 7 LS (.int (zN 106) :: ST) M h = Rn X d 97 186 LS ST M h := s_tab (off := 179) mt_97 dX4_obeyCommand_7 (by decide) (by decide) (by decide +kernel) rfl
theorem e97_7_107 : Rn X d 97 7 LS (.int (zN 107) :: ST) M h = Rn X d 97 186 LS ST M h := s_tab (off := 179) mt_97 dX4_obeyCommand_7 (by decide) (by decide) (by decide +kernel) rfl
theorem e97_7_108 : Rn X d 97 7 LS (.int (zN 108) :: ST) M h = Rn X d 97 100 LS ST M h := s_tab (off := 93) mt_97 dX4_obeyCommand_7 (by decide) (by decide) (by decide +kernel) rfl
theorem e97_7_109 : Rn X d 97 7 LS (.int (zN 109) :: ST) M h = Rn X d 97 112 LS ST M h := s_tab (off := 105) mt_97 dX4_obeyCommand_7 (by decide) (by decide) (by decide +kernel) rfl
theorem e97_7_110 : Rn X d 97 7 LS (.int (zN 110) :: ST) M h = Rn X d 97 186 LS ST M h := s_tab (off := 179) mt_97 dX4_obeyCommand_7 (by decide) (by decide) (by decide +kernel) rfl
theorem e97_7_111 : Rn X d 97 7 LS (.int (zN 111) :: ST) M h = Rn X d 97 186 LS ST M h := s_tab (off := 179) mt_97 dX4_obeyCommand_7 (by decide) (by decide) (by decide +kernel) rfl
theorem e97_7_112 : Rn X d 97 7 LS (.int (zN 112) :: ST) M h = Rn X d 97 186 LS ST M h := s_tab (off := 179) mt_97 dX4_obeyCommand_7 (by decide) (by decide) (by decide +kernel) rfl
theorem e97_7_113 : Rn X d 97 7 LS (.int (zN 113) :: ST) M h = Rn X d 97 186 LS ST M h := s_tab (off := 179) mt_97 dX4_obeyCommand_7 (by decide) (by decide) (by decide +kernel) rfl
theorem e97_7_114 : Rn X d 97 7 LS (.int (zN 114) :: ST) M h = Rn X d 97 130 LS ST M h := s_tab (off := 123) mt_97 dX4_obeyCommand_7 (by decide) (by decide) (by decide +kernel) rfl
theorem e97_7_115 : Rn X d 97 7 LS (.int (zN 115) :: ST) M h = Rn X d 97 118 LS ST M h := s_tab (off := 111) mt_97 dX4_obeyCommand_7 (by decide) (by decide) (by decide +kernel) rfl
theorem e97_7_116 : Rn X d 97 7 LS (.int (zN 116) :: ST) M h = Rn X d 97 161 LS ST M h := s_tab (off := 154) mt_97 dX4_obeyCommand_7 (by decide) (by decide) (by decide +kernel) rfl
theorem e97_7_117 : Rn X d 97 7 LS (.int (zN 117) :: ST) M h = Rn X d 97 106 LS ST M h := s_tab (off := 99) mt_97 dX4_obeyCommand_7 (by decide) (by decide) (by decide +kernel) rfl
theorem e97_7_118 : Rn X d 97 7 LS (.int (zN 118) :: ST) M h = Rn X d 97 124 LS ST M h := s_tab (off := 117) mt_97 dX4_obeyCommand_7 (by decide) (by decide) (by decide +kernel) rfl
theorem e97_7_h {v : Nat} (h0 : v < 2147483648) (h1 : 118 < v) : Rn X d 97 7 LS (.int (zN v) :: ST) M h = Rn X d 97 186 LS ST M h := s_tabD mt_97 dX4_obeyCommand_7 rfl h0 (Or.inr (by omega))
theorem e97_7_l {v : Nat} (h1 : v < 99) : Rn X d 97 7 LS (.int (zN v) :: ST) M h = Rn X d 97 186 LS ST M h := s_tabD mt_97 dX4_obeyCommand_7 rfl (by omega) (Or.inl (by omega))
theorem e97_7_m {v : Nat} (h0 : v < 2147483648) : Rn X d 97 7 LS (.int (zM v) :: ST) M h = Rn X d 97 186 LS ST M h := s_tabM mt_97 dX4_obeyCommand_7 rfl (by decide) h0
theorem e97_100 : Rn X d 97 100 (some (.ref a) :: t) ST M h = Rn X d 97 101 (some (.ref a) :: t) (.ref a :: ST) M h := r_aload_n mt_97 dX4_obeyCommand_100 rfl
theorem e97_101 : Rn X d 97 101 LS ST M h = Rn X d 97 102 LS (.int (zN 0) :: ST) M h := r_iconst mt_97 dX4_obeyCommand_101 c_ic0
theorem e97_102 (hcs : Nat.ble (j_cs ST) 8 = true) : Rn X (d + 1) 97 102 LS (.int x :: .ref a :: ST) M h = j_rc (M a) 4 (q_k X (Rn X d 98 0 [some (.ref a), some (.int x)] [] M (j_h0 h)) h (d + 1) 97 105 LS ST) := s_callV mt_97 dX4_obeyCommand_102 cl_4_325 mt_98 rfl rfl (Nat.le_add_left _ _) rfl rfl rfl rfl hcs
theorem e97_105 {v : Nat} (h0 : v < 2) : Rn X d 97 105 LS ([.int (zN v)]) M h = some (.inl (some (.int (zN v))), M, h) := s_zret mt_97 dX4_obeyCommand_105 rfl h0
theorem e97_106 : Rn X d 97 106 (some (.ref a) :: t) ST M h = Rn X d 97 107 (some (.ref a) :: t) (.ref a :: ST) M h := r_aload_n mt_97 dX4_obeyCommand_106 rfl
theorem e97_107 : Rn X d 97 107 LS ST M h = Rn X d 97 108 LS (.int (zN 1) :: ST) M h := r_iconst mt_97 dX4_obeyCommand_107 c_ic1
theorem e97_108 (hcs : Nat.ble (j_cs ST) 8 = true) : Rn X (d + 1) 97 108 LS (.int x :: .ref a :: ST) M h = j_rc (M a) 4 (q_k X (Rn X d 98 0 [some (.ref a), some (.int x)] [] M (j_h0 h)) h (d + 1) 97 111 LS ST) := s_callV mt_97 dX4_obeyCommand_108 cl_4_325 mt_98 rfl rfl (Nat.le_add_left _ _) rfl rfl rfl rfl hcs
theorem e97_111 {v : Nat} (h0 : v < 2) : Rn X d 97 111 LS ([.int (zN v)]) M h = some (.inl (some (.int (zN v))), M, h) := s_zret mt_97 dX4_obeyCommand_111 rfl h0
theorem e97_112 : Rn X d 97 112 (some (.ref a) :: t) ST M h = Rn X d 97 113 (some (.ref a) :: t) (.ref a :: ST) M h := r_aload_n mt_97 dX4_obeyCommand_112 rfl
theorem e97_113 : Rn X d 97 113 LS ST M h = Rn X d 97 114 LS (.int (zN 2) :: ST) M h := r_iconst mt_97 dX4_obeyCommand_113 c_ic2
theorem e97_114 (hcs : Nat.ble (j_cs ST) 8 = true) : Rn X (d + 1) 97 114 LS (.int x :: .ref a :: ST) M h = j_rc (M a) 4 (q_k X (Rn X d 98 0 [some (.ref a), some (.int x)] [] M (j_h0 h)) h (d + 1) 97 117 LS ST) := s_callV mt_97 dX4_obeyCommand_114 cl_4_325 mt_98 rfl rfl (Nat.le_add_left _ _) rfl rfl rfl rfl hcs
theorem e97_117 {v : Nat} (h0 : v < 2) : Rn X d 97 117 LS ([.int (zN v)]) M h = some (.inl (some (.int (zN v))), M, h) := s_zret mt_97 dX4_obeyCommand_117 rfl h0
theorem e97_118 : Rn X d 97 118 (some (.ref a) :: t) ST M h = Rn X d 97 119 (some (.ref a) :: t) (.ref a :: ST) M h := r_aload_n mt_97 dX4_obeyCommand_118 rfl
theorem e97_119 : Rn X d 97 119 LS ST M h = Rn X d 97 120 LS (.int (zN 3) :: ST) M h := r_iconst mt_97 dX4_obeyCommand_119 c_ic3
theorem e97_120 (hcs : Nat.ble (j_cs ST) 8 = true) : Rn X (d + 1) 97 120 LS (.int x :: .ref a :: ST) M h = j_rc (M a) 4 (q_k X (Rn X d 98 0 [some (.ref a), some (.int x)] [] M (j_h0 h)) h (d + 1) 97 123 LS ST) := s_callV mt_97 dX4_obeyCommand_120 cl_4_325 mt_98 rfl rfl (Nat.le_add_left _ _) rfl rfl rfl rfl hcs
theorem e97_123 {v : Nat} (h0 : v < 2) : Rn X d 97 123 LS ([.int (zN v)]) M h = some (.inl (some (.int (zN v))), M, h) := s_zret mt_97 dX4_obeyCommand_123 rfl h0
theorem e97_124 : Rn X d 97 124 (some (.ref a) :: t) ST M h = Rn X d 97 125 (some (.ref a) :: t) (.ref a :: ST) M h := r_aload_n mt_97 dX4_obeyCommand_124 rfl
theorem e97_125 : Rn X d 97 125 LS ST M h = Rn X d 97 126 LS (.int (zN 4) :: ST) M h := r_iconst mt_97 dX4_obeyCommand_125 c_ic4
theorem e97_126 (hcs : Nat.ble (j_cs ST) 8 = true) : Rn X (d + 1) 97 126 LS (.int x :: .ref a :: ST) M h = j_rc (M a) 4 (q_k X (Rn X d 98 0 [some (.ref a), some (.int x)] [] M (j_h0 h)) h (d + 1) 97 129 LS ST) := s_callV mt_97 dX4_obeyCommand_126 cl_4_325 mt_98 rfl rfl (Nat.le_add_left _ _) rfl rfl rfl rfl hcs
theorem e97_129 {v : Nat} (h0 : v < 2) : Rn X d 97 129 LS ([.int (zN v)]) M h = some (.inl (some (.int (zN v))), M, h) := s_zret mt_97 dX4_obeyCommand_129 rfl h0
theorem e97_130 : Rn X d 97 130 (some (.ref a) :: t) ST M h = Rn X d 97 131 (some (.ref a) :: t) (.ref a :: ST) M h := r_aload_n mt_97 dX4_obeyCommand_130 rfl
theorem e97_131 : Rn X d 97 131 LS (.ref a :: ST) M h = q_g X (M a) 4 0 d 97 134 LS ST M h := s_get mt_97 dX4_obeyCommand_131 f_4_10
theorem e97_134 : Rn X d 97 134 (some (.ref a) :: t) ST M h = Rn X d 97 135 (some (.ref a) :: t) (.ref a :: ST) M h := r_aload_n mt_97 dX4_obeyCommand_134 rfl
theorem e97_135 : Rn X d 97 135 LS (.ref a :: ST) M h = q_g X (M a) 4 0 d 97 138 LS ST M h := s_get mt_97 dX4_obeyCommand_135 f_4_10
theorem e97_138 : Rn X d 97 138 (some (.ref a) :: t) ST M h = Rn X d 97 139 (some (.ref a) :: t) (.ref a :: ST) M h := r_aload_n mt_97 dX4_obeyCommand_138 rfl
theorem e97_139 : Rn X d 97 139 LS (.ref a :: ST) M h = q_g X (M a) 4 3 d 97 142 LS ST M h := s_get mt_97 dX4_obeyCommand_139 f_4_27
theorem e97_142 : Rn X d 97 142 LS (.ref a :: ST) M h = q_g X (M a) 3 4 d 97 145 LS ST M h := s_get mt_97 dX4_obeyCommand_142 f_4_328
theorem e97_145 (hcs : Nat.ble (j_cs ST) 8 = true) : Rn X (d + 1) 97 145 LS (.int x :: .ref a :: ST) M h = j_rc (M a) 2 (q_k X (Rn X d 34 0 [some (.ref a), some (.int x)] [] M (j_h0 h)) h (d + 1) 97 148 LS ST) := s_callV mt_97 dX4_obeyCommand_145 cl_4_95 mt_34 rfl rfl (Nat.le_add_left _ _) rfl rfl rfl rfl hcs
theorem e97_148 : Rn X d 97 148 (some (.ref a) :: t) ST M h = Rn X d 97 149 (some (.ref a) :: t) (.ref a :: ST) M h := r_aload_n mt_97 dX4_obeyCommand_148 rfl
theorem e97_149 : Rn X d 97 149 LS (.ref a :: ST) M h = q_g X (M a) 4 3 d 97 152 LS ST M h := s_get mt_97 dX4_obeyCommand_149 f_4_27
theorem e97_152 : Rn X d 97 152 LS (.ref a :: ST) M h = q_g X (M a) 3 6 d 97 155 LS ST M h := s_get mt_97 dX4_obeyCommand_152 f_4_330
theorem e97_155 (hcs : Nat.ble (j_cs ST) 8 = true) : Rn X (d + 1) 97 155 LS (.int x :: .ref b :: .ref a :: ST) M h = j_rc (M a) 2 (q_k X (Rn X d 40 0 [some (.ref a), some (.ref b), some (.int x), none] [] M (j_h0 h)) h (d + 1) 97 158 LS ST) := s_callV mt_97 dX4_obeyCommand_155 cl_4_99 mt_40 rfl rfl (Nat.le_add_left _ _) rfl rfl rfl rfl hcs
theorem e97_158 : Rn X d 97 158 LS (.int x :: ST) M h = Rn X d 97 159 LS ST M h := r_pop mt_97 dX4_obeyCommand_158 rfl
theorem e97_159 : Rn X d 97 159 LS ST M h = Rn X d 97 160 LS (.int (zN 1) :: ST) M h := r_iconst mt_97 dX4_obeyCommand_159 c_ic1
theorem e97_160 {v : Nat} (h0 : v < 2) : Rn X d 97 160 LS ([.int (zN v)]) M h = some (.inl (some (.int (zN v))), M, h) := s_zret mt_97 dX4_obeyCommand_160 rfl h0
theorem e97_161 : Rn X d 97 161 (some (.ref a) :: t) ST M h = Rn X d 97 162 (some (.ref a) :: t) (.ref a :: ST) M h := r_aload_n mt_97 dX4_obeyCommand_161 rfl
theorem e97_162 (hcs : Nat.ble (j_cs ST) 8 = true) : Rn X (d + 1) 97 162 LS (.ref a :: ST) M h = j_rc (M a) 4 (q_k X (Rn X d 99 0 [some (.ref a), none] [] M (j_h0 h)) h (d + 1) 97 165 LS ST) := s_callV mt_97 dX4_obeyCommand_162 cl_4_333 mt_99 rfl rfl (Nat.le_add_left _ _) rfl rfl rfl rfl hcs
theorem e97_165 {v : Nat} (h0 : v < 2) : Rn X d 97 165 LS ([.int (zN v)]) M h = some (.inl (some (.int (zN v))), M, h) := s_zret mt_97 dX4_obeyCommand_165 rfl h0
theorem e97_166 : Rn X d 97 166 (some (.ref a) :: t) ST M h = Rn X d 97 167 (some (.ref a) :: t) (.ref a :: ST) M h := r_aload_n mt_97 dX4_obeyCommand_166 rfl
theorem e97_167 : Rn X d 97 167 LS (.ref a :: ST) M h = q_g X (M a) 4 0 d 97 170 LS ST M h := s_get mt_97 dX4_obeyCommand_167 f_4_10
theorem e97_170 : Rn X d 97 170 (some (.ref a) :: t) ST M h = Rn X d 97 171 (some (.ref a) :: t) (.ref a :: ST) M h := r_aload_n mt_97 dX4_obeyCommand_170 rfl
theorem e97_171 : Rn X d 97 171 LS (.ref a :: ST) M h = q_g X (M a) 4 3 d 97 174 LS ST M h := s_get mt_97 dX4_obeyCommand_171 f_4_27
theorem e97_174 : Rn X d 97 174 LS (.ref a :: ST) M h = q_g X (M a) 3 4 d 97 177 LS ST M h := s_get mt_97 dX4_obeyCommand_174 f_4_328
theorem e97_177 (hcs : Nat.ble (j_cs ST) 8 = true) : Rn X (d + 1) 97 177 LS (.int x :: .ref a :: ST) M h = j_rc (M a) 2 (q_k X (Rn X d 34 0 [some (.ref a), some (.int x)] [] M (j_h0 h)) h (d + 1) 97 180 LS ST) := s_callV mt_97 dX4_obeyCommand_177 cl_4_95 mt_34 rfl rfl (Nat.le_add_left _ _) rfl rfl rfl rfl hcs
theorem e97_180 (hcs : Nat.ble (j_cs ST) 8 = true) : Rn X (d + 1) 97 180 LS (.ref a :: ST) M h = j_rc (M a) 1 (q_k X (Rn X d 28 0 [some (.ref a), none] [] M (j_h0 h)) h (d + 1) 97 183 LS ST) := s_callV mt_97 dX4_obeyCommand_180 cl_4_115 mt_28 rfl rfl (Nat.le_add_left _ _) rfl rfl rfl rfl hcs
theorem e97_183 : Rn X d 97 183 LS (.int x :: ST) M h = Rn X d 97 184 LS ST M h := r_pop mt_97 dX4_obeyCommand_183 rfl
theorem e97_184 : Rn X d 97 184 LS ST M h = Rn X d 97 185 LS (.int (zN 1) :: ST) M h := r_iconst mt_97 dX4_obeyCommand_184 c_ic1
theorem e97_185 {v : Nat} (h0 : v < 2) : Rn X d 97 185 LS ([.int (zN v)]) M h = some (.inl (some (.int (zN v))), M, h) := s_zret mt_97 dX4_obeyCommand_185 rfl h0
theorem e97_186 : Rn X d 97 186 LS ST M h = Rn X d 97 187 LS (.int (zN 0) :: ST) M h := r_iconst mt_97 dX4_obeyCommand_186 c_ic0
theorem e97_187 {v : Nat} (h0 : v < 2) : Rn X d 97 187 LS ([.int (zN v)]) M h = some (.inl (some (.int (zN v))), M, h) := s_zret mt_97 dX4_obeyCommand_187 rfl h0
theorem e98_0 : Rn X d 98 0 (l0 :: some (.int x) :: t) ST M h = Rn X d 98 1 (l0 :: some (.int x) :: t) (.int x :: ST) M h := r_iload_n mt_98 dX4_obeyWrite_0 rfl
theorem e98_1 : Rn X d 98 1 (some (.ref a) :: t) ST M h = Rn X d 98 2 (some (.ref a) :: t) (.ref a :: ST) M h := r_aload_n mt_98 dX4_obeyWrite_1 rfl
theorem e98_2 : Rn X d 98 2 LS (.ref a :: ST) M h = q_g X (M a) 4 3 d 98 5 LS ST M h := s_get mt_98 dX4_obeyWrite_2 f_4_27
theorem e98_5 : Rn X d 98 5 LS (.ref a :: ST) M h = q_g X (M a) 3 4 d 98 8 LS ST M h := s_get mt_98 dX4_obeyWrite_5 f_4_328
theorem e98_8 : Rn X d 98 8 (some (.ref a) :: t) ST M h = Rn X d 98 9 (some (.ref a) :: t) (.ref a :: ST) M h := r_aload_n mt_98 dX4_obeyWrite_8 rfl
theorem e98_9 : Rn X d 98 9 LS (.ref a :: ST) M h = q_g X (M a) 4 3 d 98 12 LS ST M h := s_get mt_98 dX4_obeyWrite_9 f_4_27
theorem e98_12 : Rn X d 98 12 LS (.ref a :: ST) M h = q_g X (M a) 3 5 d 98 15 LS ST M h := s_get mt_98 dX4_obeyWrite_12 f_4_336
theorem e98_15 : Rn X d 98 15 (some (.ref a) :: t) ST M h = Rn X d 98 16 (some (.ref a) :: t) (.ref a :: ST) M h := r_aload_n mt_98 dX4_obeyWrite_15 rfl
theorem e98_16 : Rn X d 98 16 LS (.ref a :: ST) M h = q_g X (M a) 4 3 d 98 19 LS ST M h := s_get mt_98 dX4_obeyWrite_16 f_4_27
theorem e98_19 : Rn X d 98 19 LS (.ref a :: ST) M h = q_g X (M a) 3 6 d 98 22 LS ST M h := s_get mt_98 dX4_obeyWrite_19 f_4_330
theorem e98_22 (hcs : Nat.ble (j_cs ST) 8 = true) : Rn X (d + 1) 98 22 LS (.int w :: .int z :: .int y :: .int x :: ST) M h = q_k X (Rn X d 90 0 [some (.int x), some (.int y), some (.int z), some (.int w)] [] M (j_h0 h)) h (d + 1) 98 25 LS ST := s_callS (Or.inl rfl) mt_98 dX4_obeyWrite_22 cl_4_59 mt_90 rfl (Nat.le_add_left _ _) rfl rfl rfl rfl hcs
theorem e98_25 : Rn X d 98 25 LS (.int x :: ST) M h = q_eq X x (zN 0) d 98 41 28 LS ST M h := s_ifeq mt_98 dX4_obeyWrite_25 rfl
theorem e98_28 : Rn X d 98 28 (some (.ref a) :: t) ST M h = Rn X d 98 29 (some (.ref a) :: t) (.ref a :: ST) M h := r_aload_n mt_98 dX4_obeyWrite_28 rfl
theorem e98_29 : Rn X d 98 29 LS (.ref a :: ST) M h = q_g X (M a) 4 0 d 98 32 LS ST M h := s_get mt_98 dX4_obeyWrite_29 f_4_10
theorem e98_32 : Rn X d 98 32 LS (.ref a :: ST) M h = q_g X (M a) 2 0 d 98 35 LS ST M h := s_get mt_98 dX4_obeyWrite_32 f_4_45
theorem e98_35 (hcs : Nat.ble (j_cs ST) 8 = true) : Rn X (d + 1) 98 35 LS (.ref a :: ST) M h = j_rc (M a) 0 (q_k X (Rn X d 5 0 [some (.ref a)] [] M (j_h0 h)) h (d + 1) 98 38 LS ST) := s_callV mt_98 dX4_obeyWrite_35 cl_4_65 mt_5 rfl rfl (Nat.le_add_left _ _) rfl rfl rfl rfl hcs
theorem e98_38 : Rn X d 98 38 LS (.int x :: ST) M h = q_eq X x (zN 0) d 98 43 41 LS ST M h := s_ifeq mt_98 dX4_obeyWrite_38 rfl
theorem e98_41 : Rn X d 98 41 LS ST M h = Rn X d 98 42 LS (.int (zN 0) :: ST) M h := r_iconst mt_98 dX4_obeyWrite_41 c_ic0
theorem e98_42 {v : Nat} (h0 : v < 2) : Rn X d 98 42 LS ([.int (zN v)]) M h = some (.inl (some (.int (zN v))), M, h) := s_zret mt_98 dX4_obeyWrite_42 rfl h0
theorem e98_43 : Rn X d 98 43 (some (.ref a) :: t) ST M h = Rn X d 98 44 (some (.ref a) :: t) (.ref a :: ST) M h := r_aload_n mt_98 dX4_obeyWrite_43 rfl
theorem e98_44 : Rn X d 98 44 LS (.ref a :: ST) M h = q_g X (M a) 4 0 d 98 47 LS ST M h := s_get mt_98 dX4_obeyWrite_44 f_4_10
theorem e98_47 : Rn X d 98 47 LS (.ref a :: ST) M h = q_g X (M a) 2 0 d 98 50 LS ST M h := s_get mt_98 dX4_obeyWrite_47 f_4_45
theorem e98_50 : Rn X d 98 50 (l0 :: some (.int x) :: t) ST M h = Rn X d 98 51 (l0 :: some (.int x) :: t) (.int x :: ST) M h := r_iload_n mt_98 dX4_obeyWrite_50 rfl
theorem e98_51 : Rn X d 98 51 (some (.ref a) :: t) ST M h = Rn X d 98 52 (some (.ref a) :: t) (.ref a :: ST) M h := r_aload_n mt_98 dX4_obeyWrite_51 rfl
theorem e98_52 : Rn X d 98 52 LS (.ref a :: ST) M h = q_g X (M a) 4 3 d 98 55 LS ST M h := s_get mt_98 dX4_obeyWrite_52 f_4_27
theorem e98_55 : Rn X d 98 55 LS (.ref a :: ST) M h = q_g X (M a) 3 4 d 98 58 LS ST M h := s_get mt_98 dX4_obeyWrite_55 f_4_328
theorem e98_58 : Rn X d 98 58 (some (.ref a) :: t) ST M h = Rn X d 98 59 (some (.ref a) :: t) (.ref a :: ST) M h := r_aload_n mt_98 dX4_obeyWrite_58 rfl
theorem e98_59 : Rn X d 98 59 LS (.ref a :: ST) M h = q_g X (M a) 4 3 d 98 62 LS ST M h := s_get mt_98 dX4_obeyWrite_59 f_4_27
theorem e98_62 : Rn X d 98 62 LS (.ref a :: ST) M h = q_g X (M a) 3 5 d 98 65 LS ST M h := s_get mt_98 dX4_obeyWrite_62 f_4_336
theorem e98_65 : Rn X d 98 65 (some (.ref a) :: t) ST M h = Rn X d 98 66 (some (.ref a) :: t) (.ref a :: ST) M h := r_aload_n mt_98 dX4_obeyWrite_65 rfl
theorem e98_66 : Rn X d 98 66 LS (.ref a :: ST) M h = q_g X (M a) 4 3 d 98 69 LS ST M h := s_get mt_98 dX4_obeyWrite_66 f_4_27
theorem e98_69 : Rn X d 98 69 LS (.ref a :: ST) M h = q_g X (M a) 3 6 d 98 72 LS ST M h := s_get mt_98 dX4_obeyWrite_69 f_4_330
theorem e98_72 (hcs : Nat.ble (j_cs ST) 8 = true) : Rn X (d + 1) 98 72 LS (.int w :: .int z :: .int y :: .int x :: .ref a :: ST) M h = j_rc (M a) 0 (q_k X (Rn X d 7 0 [some (.ref a), some (.int x), some (.int y), some (.int z), some (.int w), none, none] [] M (j_h0 h)) h (d + 1) 98 75 LS ST) := s_callV mt_98 dX4_obeyWrite_72 cl_4_74 mt_7 rfl rfl (Nat.le_add_left _ _) rfl rfl rfl rfl hcs
theorem e98_75 : Rn X d 98 75 LS (.int x :: ST) M h = Rn X d 98 76 LS ST M h := r_pop mt_98 dX4_obeyWrite_75 rfl
theorem e98_76 : Rn X d 98 76 LS ST M h = Rn X d 98 77 LS (.int (zN 1) :: ST) M h := r_iconst mt_98 dX4_obeyWrite_76 c_ic1
theorem e98_77 {v : Nat} (h0 : v < 2) : Rn X d 98 77 LS ([.int (zN v)]) M h = some (.inl (some (.int (zN v))), M, h) := s_zret mt_98 dX4_obeyWrite_77 rfl h0
theorem e99_0 : Rn X d 99 0 (some (.ref a) :: t) ST M h = Rn X d 99 1 (some (.ref a) :: t) (.ref a :: ST) M h := r_aload_n mt_99 dX4_obeySnapshot_0 rfl
theorem e99_1 : Rn X d 99 1 LS (.ref a :: ST) M h = q_g X (M a) 4 0 d 99 4 LS ST M h := s_get mt_99 dX4_obeySnapshot_1 f_4_10
theorem e99_4 : Rn X d 99 4 (some (.ref a) :: t) ST M h = Rn X d 99 5 (some (.ref a) :: t) (.ref a :: ST) M h := r_aload_n mt_99 dX4_obeySnapshot_4 rfl
theorem e99_5 : Rn X d 99 5 LS (.ref a :: ST) M h = q_g X (M a) 4 3 d 99 8 LS ST M h := s_get mt_99 dX4_obeySnapshot_5 f_4_27
theorem e99_8 : Rn X d 99 8 LS (.ref a :: ST) M h = q_g X (M a) 3 4 d 99 11 LS ST M h := s_get mt_99 dX4_obeySnapshot_8 f_4_328
theorem e99_11 (hcs : Nat.ble (j_cs ST) 8 = true) : Rn X (d + 1) 99 11 LS (.int x :: .ref a :: ST) M h = j_rc (M a) 2 (q_k X (Rn X d 34 0 [some (.ref a), some (.int x)] [] M (j_h0 h)) h (d + 1) 99 14 LS ST) := s_callV mt_99 dX4_obeySnapshot_11 cl_4_95 mt_34 rfl rfl (Nat.le_add_left _ _) rfl rfl rfl rfl hcs
theorem e99_14 (ho : j_one l0 = true) : Rn X d 99 14 (l0 :: l1 :: t) (.ref a :: ST) M h = Rn X d 99 15 (l0 :: some (.ref a) :: t) ST M h := r_astore_n mt_99 dX4_obeySnapshot_14 (by show 1 < _; simp only [List.length_cons]; omega) ho rfl
theorem e99_15 : Rn X d 99 15 (l0 :: some (.ref a) :: t) ST M h = Rn X d 99 16 (l0 :: some (.ref a) :: t) (.ref a :: ST) M h := r_aload_n mt_99 dX4_obeySnapshot_15 rfl
theorem e99_16 : Rn X d 99 16 LS (.ref a :: ST) M h = q_g X (M a) 1 2 d 99 19 LS ST M h := s_get mt_99 dX4_obeySnapshot_16 f_4_103
theorem e99_19 : Rn X d 99 19 LS (.int x :: ST) M h = q_eq X x (zN 0) d 99 22 24 LS ST M h := s_ifne mt_99 dX4_obeySnapshot_19 rfl
theorem e99_22 : Rn X d 99 22 LS ST M h = Rn X d 99 23 LS (.int (zN 0) :: ST) M h := r_iconst mt_99 dX4_obeySnapshot_22 c_ic0
theorem e99_23 {v : Nat} (h0 : v < 2) : Rn X d 99 23 LS ([.int (zN v)]) M h = some (.inl (some (.int (zN v))), M, h) := s_zret mt_99 dX4_obeySnapshot_23 rfl h0
theorem e99_24 : Rn X d 99 24 (some (.ref a) :: t) ST M h = Rn X d 99 25 (some (.ref a) :: t) (.ref a :: ST) M h := r_aload_n mt_99 dX4_obeySnapshot_24 rfl
theorem e99_25 : Rn X d 99 25 LS (.ref a :: ST) M h = q_g X (M a) 4 0 d 99 28 LS ST M h := s_get mt_99 dX4_obeySnapshot_25 f_4_10
theorem e99_28 : Rn X d 99 28 (l0 :: some (.ref a) :: t) ST M h = Rn X d 99 29 (l0 :: some (.ref a) :: t) (.ref a :: ST) M h := r_aload_n mt_99 dX4_obeySnapshot_28 rfl
theorem e99_29 (hcs : Nat.ble (j_cs ST) 8 = true) : Rn X (d + 1) 99 29 LS (.ref b :: .ref a :: ST) M h = j_rc (M a) 2 (q_k X (Rn X d 42 0 [some (.ref a), some (.ref b), none] [] M (j_h0 h)) h (d + 1) 99 32 LS ST) := s_callV mt_99 dX4_obeySnapshot_29 cl_4_111 mt_42 rfl rfl (Nat.le_add_left _ _) rfl rfl rfl rfl hcs
theorem e99_32 : Rn X d 99 32 LS (.int x :: ST) M h = Rn X d 99 33 LS ST M h := r_pop mt_99 dX4_obeySnapshot_32 rfl
theorem e99_33 : Rn X d 99 33 LS ST M h = Rn X d 99 34 LS (.int (zN 1) :: ST) M h := r_iconst mt_99 dX4_obeySnapshot_33 c_ic1
theorem e99_34 {v : Nat} (h0 : v < 2) : Rn X d 99 34 LS ([.int (zN v)]) M h = some (.inl (some (.int (zN v))), M, h) := s_zret mt_99 dX4_obeySnapshot_34 rfl h0
theorem e100_0 : Rn X d 100 0 (some (.int x) :: t) ST M h = Rn X d 100 1 (some (.int x) :: t) (.int x :: ST) M h := r_iload_n mt_100 dJ6_bitCount_0f7a4_0 rfl
theorem e100_1 : Rn X d 100 1 (some (.int x) :: t) ST M h = Rn X d 100 2 (some (.int x) :: t) (.int x :: ST) M h := r_iload_n mt_100 dJ6_bitCount_0f7a4_1 rfl
theorem e100_2 : Rn X d 100 2 LS ST M h = Rn X d 100 3 LS (.int (zN 1) :: ST) M h := r_iconst mt_100 dJ6_bitCount_0f7a4_2 c_ic1
theorem e100_3 : Rn X d 100 3 LS (.int y :: .int x :: ST) M h = Rn X d 100 4 LS (.int ((x.toUInt32 >>> (y.toUInt32 &&& Int32.toUInt32 31)).toInt32) :: ST) M h := r_iushr mt_100 dJ6_bitCount_0f7a4_3
theorem e100_4 : Rn X d 100 4 LS ST M h = Rn X d 100 7 LS (.int (zN 1431655765) :: ST) M h := r_ldc_w mt_100 dJ6_bitCount_0f7a4_4 ki_6_265
theorem e100_7 : Rn X d 100 7 LS (.int y :: .int x :: ST) M h = Rn X d 100 8 LS (.int (x &&& y) :: ST) M h := r_iand mt_100 dJ6_bitCount_0f7a4_7
theorem e100_8 : Rn X d 100 8 LS (.int y :: .int x :: ST) M h = Rn X d 100 9 LS (.int (x - y) :: ST) M h := r_isub mt_100 dJ6_bitCount_0f7a4_8
theorem e100_9 : Rn X d 100 9 (l0 :: t) (.int x :: ST) M h = Rn X d 100 10 (some (.int x) :: t) ST M h := r_istore_n mt_100 dJ6_bitCount_0f7a4_9 (by show 0 < _; simp only [List.length_cons]; omega) rfl rfl
theorem e100_10 : Rn X d 100 10 (some (.int x) :: t) ST M h = Rn X d 100 11 (some (.int x) :: t) (.int x :: ST) M h := r_iload_n mt_100 dJ6_bitCount_0f7a4_10 rfl
theorem e100_11 : Rn X d 100 11 LS ST M h = Rn X d 100 14 LS (.int (zN 858993459) :: ST) M h := r_ldc_w mt_100 dJ6_bitCount_0f7a4_11 ki_6_266
theorem e100_14 : Rn X d 100 14 LS (.int y :: .int x :: ST) M h = Rn X d 100 15 LS (.int (x &&& y) :: ST) M h := r_iand mt_100 dJ6_bitCount_0f7a4_14
theorem e100_15 : Rn X d 100 15 (some (.int x) :: t) ST M h = Rn X d 100 16 (some (.int x) :: t) (.int x :: ST) M h := r_iload_n mt_100 dJ6_bitCount_0f7a4_15 rfl
theorem e100_16 : Rn X d 100 16 LS ST M h = Rn X d 100 17 LS (.int (zN 2) :: ST) M h := r_iconst mt_100 dJ6_bitCount_0f7a4_16 c_ic2
theorem e100_17 : Rn X d 100 17 LS (.int y :: .int x :: ST) M h = Rn X d 100 18 LS (.int ((x.toUInt32 >>> (y.toUInt32 &&& Int32.toUInt32 31)).toInt32) :: ST) M h := r_iushr mt_100 dJ6_bitCount_0f7a4_17
theorem e100_18 : Rn X d 100 18 LS ST M h = Rn X d 100 21 LS (.int (zN 858993459) :: ST) M h := r_ldc_w mt_100 dJ6_bitCount_0f7a4_18 ki_6_266
theorem e100_21 : Rn X d 100 21 LS (.int y :: .int x :: ST) M h = Rn X d 100 22 LS (.int (x &&& y) :: ST) M h := r_iand mt_100 dJ6_bitCount_0f7a4_21
theorem e100_22 : Rn X d 100 22 LS (.int y :: .int x :: ST) M h = Rn X d 100 23 LS (.int (x + y) :: ST) M h := r_iadd mt_100 dJ6_bitCount_0f7a4_22
theorem e100_23 : Rn X d 100 23 (l0 :: t) (.int x :: ST) M h = Rn X d 100 24 (some (.int x) :: t) ST M h := r_istore_n mt_100 dJ6_bitCount_0f7a4_23 (by show 0 < _; simp only [List.length_cons]; omega) rfl rfl
theorem e100_24 : Rn X d 100 24 (some (.int x) :: t) ST M h = Rn X d 100 25 (some (.int x) :: t) (.int x :: ST) M h := r_iload_n mt_100 dJ6_bitCount_0f7a4_24 rfl
theorem e100_25 : Rn X d 100 25 (some (.int x) :: t) ST M h = Rn X d 100 26 (some (.int x) :: t) (.int x :: ST) M h := r_iload_n mt_100 dJ6_bitCount_0f7a4_25 rfl
theorem e100_26 : Rn X d 100 26 LS ST M h = Rn X d 100 27 LS (.int (zN 4) :: ST) M h := r_iconst mt_100 dJ6_bitCount_0f7a4_26 c_ic4
theorem e100_27 : Rn X d 100 27 LS (.int y :: .int x :: ST) M h = Rn X d 100 28 LS (.int ((x.toUInt32 >>> (y.toUInt32 &&& Int32.toUInt32 31)).toInt32) :: ST) M h := r_iushr mt_100 dJ6_bitCount_0f7a4_27
theorem e100_28 : Rn X d 100 28 LS (.int y :: .int x :: ST) M h = Rn X d 100 29 LS (.int (x + y) :: ST) M h := r_iadd mt_100 dJ6_bitCount_0f7a4_28
theorem e100_29 : Rn X d 100 29 LS ST M h = Rn X d 100 32 LS (.int (zN 252645135) :: ST) M h := r_ldc_w mt_100 dJ6_bitCount_0f7a4_29 ki_6_267
theorem e100_32 : Rn X d 100 32 LS (.int y :: .int x :: ST) M h = Rn X d 100 33 LS (.int (x &&& y) :: ST) M h := r_iand mt_100 dJ6_bitCount_0f7a4_32
theorem e100_33 : Rn X d 100 33 (l0 :: t) (.int x :: ST) M h = Rn X d 100 34 (some (.int x) :: t) ST M h := r_istore_n mt_100 dJ6_bitCount_0f7a4_33 (by show 0 < _; simp only [List.length_cons]; omega) rfl rfl
theorem e100_34 : Rn X d 100 34 (some (.int x) :: t) ST M h = Rn X d 100 35 (some (.int x) :: t) (.int x :: ST) M h := r_iload_n mt_100 dJ6_bitCount_0f7a4_34 rfl
theorem e100_35 : Rn X d 100 35 (some (.int x) :: t) ST M h = Rn X d 100 36 (some (.int x) :: t) (.int x :: ST) M h := r_iload_n mt_100 dJ6_bitCount_0f7a4_35 rfl
theorem e100_36 : Rn X d 100 36 LS ST M h = Rn X d 100 38 LS (.int (zN 8) :: ST) M h := r_bipush mt_100 dJ6_bitCount_0f7a4_36 c_bi8
theorem e100_38 : Rn X d 100 38 LS (.int y :: .int x :: ST) M h = Rn X d 100 39 LS (.int ((x.toUInt32 >>> (y.toUInt32 &&& Int32.toUInt32 31)).toInt32) :: ST) M h := r_iushr mt_100 dJ6_bitCount_0f7a4_38
theorem e100_39 : Rn X d 100 39 LS (.int y :: .int x :: ST) M h = Rn X d 100 40 LS (.int (x + y) :: ST) M h := r_iadd mt_100 dJ6_bitCount_0f7a4_39
theorem e100_40 : Rn X d 100 40 (l0 :: t) (.int x :: ST) M h = Rn X d 100 41 (some (.int x) :: t) ST M h := r_istore_n mt_100 dJ6_bitCount_0f7a4_40 (by show 0 < _; simp only [List.length_cons]; omega) rfl rfl
theorem e100_41 : Rn X d 100 41 (some (.int x) :: t) ST M h = Rn X d 100 42 (some (.int x) :: t) (.int x :: ST) M h := r_iload_n mt_100 dJ6_bitCount_0f7a4_41 rfl
theorem e100_42 : Rn X d 100 42 (some (.int x) :: t) ST M h = Rn X d 100 43 (some (.int x) :: t) (.int x :: ST) M h := r_iload_n mt_100 dJ6_bitCount_0f7a4_42 rfl
theorem e100_43 : Rn X d 100 43 LS ST M h = Rn X d 100 45 LS (.int (zN 16) :: ST) M h := r_bipush mt_100 dJ6_bitCount_0f7a4_43 c_bi16
theorem e100_45 : Rn X d 100 45 LS (.int y :: .int x :: ST) M h = Rn X d 100 46 LS (.int ((x.toUInt32 >>> (y.toUInt32 &&& Int32.toUInt32 31)).toInt32) :: ST) M h := r_iushr mt_100 dJ6_bitCount_0f7a4_45
theorem e100_46 : Rn X d 100 46 LS (.int y :: .int x :: ST) M h = Rn X d 100 47 LS (.int (x + y) :: ST) M h := r_iadd mt_100 dJ6_bitCount_0f7a4_46
theorem e100_47 : Rn X d 100 47 (l0 :: t) (.int x :: ST) M h = Rn X d 100 48 (some (.int x) :: t) ST M h := r_istore_n mt_100 dJ6_bitCount_0f7a4_47 (by show 0 < _; simp only [List.length_cons]; omega) rfl rfl
theorem e100_48 : Rn X d 100 48 (some (.int x) :: t) ST M h = Rn X d 100 49 (some (.int x) :: t) (.int x :: ST) M h := r_iload_n mt_100 dJ6_bitCount_0f7a4_48 rfl
theorem e100_49 : Rn X d 100 49 LS ST M h = Rn X d 100 51 LS (.int (zN 63) :: ST) M h := r_bipush mt_100 dJ6_bitCount_0f7a4_49 c_bi63
theorem e100_51 : Rn X d 100 51 LS (.int y :: .int x :: ST) M h = Rn X d 100 52 LS (.int (x &&& y) :: ST) M h := r_iand mt_100 dJ6_bitCount_0f7a4_51
theorem e100_52 : Rn X d 100 52 LS ([.int x]) M h = some (.inl (some (.int x)), M, h) := r_iret mt_100 dJ6_bitCount_0f7a4_52 rfl
theorem e101_0 : Rn X d 101 0 (l0 :: some (.int x) :: t) ST M h = Rn X d 101 1 (l0 :: some (.int x) :: t) (.int x :: ST) M h := r_iload_n mt_101 dL_cell_0 rfl
theorem e101_1 : Rn X d 101 1 (some (.ref a) :: t) ST M h = Rn X d 101 2 (some (.ref a) :: t) (.ref a :: ST) M h := r_aload_n mt_101 dL_cell_1 rfl
theorem e101_2 : Rn X d 101 2 LS (.ref 1000000 :: ST) M h = Rn X d 101 3 LS (.int (zN X.1) :: ST) M h := s_alen mt_101 dL_cell_2
theorem e101_3 : Rn X d 101 3 LS (.int y :: .int x :: ST) M h = q_le X y x d 101 12 6 LS ST M h := s_icge mt_101 dL_cell_3 rfl
theorem e101_6 : Rn X d 101 6 (some (.ref a) :: t) ST M h = Rn X d 101 7 (some (.ref a) :: t) (.ref a :: ST) M h := r_aload_n mt_101 dL_cell_6 rfl
theorem e101_7 : Rn X d 101 7 (l0 :: some (.int x) :: t) ST M h = Rn X d 101 8 (l0 :: some (.int x) :: t) (.int x :: ST) M h := r_iload_n mt_101 dL_cell_7 rfl
theorem e101_8 : Rn X d 101 8 LS (.int x :: .ref a :: ST) M h = q_ld X (M a) a x d 101 9 LS ST M h := s_iald mt_101 dL_cell_8
theorem e101_9 : Rn X d 101 9 LS ST M h = Rn X d 101 20 LS ST M h := r_goto mt_101 dL_cell_9 rfl
theorem e101_12 : Rn X d 101 12 LS ST M h = Rn X d 101 14 LS (.int (zN 15485803) :: ST) M h := r_ldc mt_101 dL_cell_12 ki_8_7
theorem e101_14 : Rn X d 101 14 (l0 :: some (.int x) :: t) ST M h = Rn X d 101 15 (l0 :: some (.int x) :: t) (.int x :: ST) M h := r_iload_n mt_101 dL_cell_14 rfl
theorem e101_15 : Rn X d 101 15 LS (.int y :: .int x :: ST) M h = Rn X d 101 16 LS (.int (x * y) :: ST) M h := r_imul mt_101 dL_cell_15
theorem e101_16 : Rn X d 101 16 LS ST M h = Rn X d 101 19 LS (.int (zN 197) :: ST) M h := r_sipush mt_101 dL_cell_16 c_si197
theorem e101_19 : Rn X d 101 19 LS (.int y :: .int x :: ST) M h = Rn X d 101 20 LS (.int (x + y) :: ST) M h := r_iadd mt_101 dL_cell_19
theorem e101_20 : Rn X d 101 20 LS ST M h = Rn X d 101 22 LS (.int (zN 2147483647) :: ST) M h := r_ldc mt_101 dL_cell_20 ki_8_8
theorem e101_22 : Rn X d 101 22 LS (.int y :: .int x :: ST) M h = Rn X d 101 23 LS (.int (x &&& y) :: ST) M h := r_iand mt_101 dL_cell_22
theorem e101_23 : Rn X d 101 23 LS ([.int x]) M h = some (.inl (some (.int x)), M, h) := r_iret mt_101 dL_cell_23 rfl
theorem e102_0 : Rn X d 102 0 (some (.ref a) :: t) ST M h = Rn X d 102 1 (some (.ref a) :: t) (.ref a :: ST) M h := r_aload_n mt_102 dL_begin_0 rfl
theorem e102_1 : Rn X d 102 1 (l0 :: some (.int x) :: t) ST M h = Rn X d 102 2 (l0 :: some (.int x) :: t) (.int x :: ST) M h := r_iload_n mt_102 dL_begin_1 rfl
theorem c102_2_A (ho : j_one l1 = true) : j_cat (Rn X) mtI_102 d 102 2 (l0 :: l1 :: l2 :: t) "java/lang/IllegalArgumentException" M h = Rn X d 102 7 (l0 :: l1 :: none :: t) [] M h := r_cat (hp := 6) (k := 2) (by decide +kernel) (by simp only [List.length_cons]; omega) ho (Or.inr ⟨2, rfl, dL_begin_6, rfl⟩) rfl
theorem e102_2 (hcs : Nat.ble (j_cs ST) 8 = true) : Rn X (d + 1) 102 2 LS (.int x :: .ref a :: ST) M h = j_rc (M a) 4 (q_kc X (Rn X d 62 0 [some (.ref a), some (.int x), none] [] M (j_h0 h)) h mtI_102 (d + 1) 102 2 5 LS ST) := s_callC mt_102 dL_begin_2 cl_8_9 mt_62 rfl rfl (Nat.le_add_left _ _) rfl rfl rfl (by decide) hcs
theorem e102_5 : Rn X d 102 5 LS ([.int x]) M h = some (.inl (some (.int x)), M, h) := r_iret mt_102 dL_begin_5 rfl
theorem e102_7 : Rn X d 102 7 LS ST M h = Rn X d 102 9 LS (.int (zM 10) :: ST) M h := r_bipush mt_102 dL_begin_7 c_bim11
theorem e102_9 : Rn X d 102 9 LS ([.int x]) M h = some (.inl (some (.int x)), M, h) := r_iret mt_102 dL_begin_9 rfl
theorem e103_0 : Rn X d 103 0 (some (.ref a) :: t) ST M h = Rn X d 103 1 (some (.ref a) :: t) (.ref a :: ST) M h := r_aload_n mt_103 dL_write_0 rfl
theorem e103_1 : Rn X d 103 1 (l0 :: some (.int x) :: t) ST M h = Rn X d 103 2 (l0 :: some (.int x) :: t) (.int x :: ST) M h := r_iload_n mt_103 dL_write_1 rfl
theorem e103_2 : Rn X d 103 2 (l0 :: l1 :: some (.int x) :: t) ST M h = Rn X d 103 3 (l0 :: l1 :: some (.int x) :: t) (.int x :: ST) M h := r_iload_n mt_103 dL_write_2 rfl
theorem e103_3 : Rn X d 103 3 (l0 :: l1 :: l2 :: some (.int x) :: t) ST M h = Rn X d 103 4 (l0 :: l1 :: l2 :: some (.int x) :: t) (.int x :: ST) M h := r_iload_n mt_103 dL_write_3 rfl
theorem e103_4 : Rn X d 103 4 (l0 :: l1 :: l2 :: l3 :: some (.int x) :: t) ST M h = Rn X d 103 6 (l0 :: l1 :: l2 :: l3 :: some (.int x) :: t) (.int x :: ST) M h := r_iload mt_103 dL_write_4 rfl
theorem c103_6_A (ho : j_one l4 = true) : j_cat (Rn X) mtI_103 d 103 6 (l0 :: l1 :: l2 :: l3 :: l4 :: l5 :: t) "java/lang/IllegalArgumentException" M h = Rn X d 103 12 (l0 :: l1 :: l2 :: l3 :: l4 :: none :: t) [] M h := r_cat (hp := 10) (k := 5) (by decide +kernel) (by simp only [List.length_cons]; omega) ho (Or.inl ⟨dL_write_10, rfl⟩) rfl
theorem c103_6_S (ho : j_one l4 = true) : j_cat (Rn X) mtI_103 d 103 6 (l0 :: l1 :: l2 :: l3 :: l4 :: l5 :: t) "java/lang/IllegalStateException" M h = Rn X d 103 17 (l0 :: l1 :: l2 :: l3 :: l4 :: none :: t) [] M h := r_cat (hp := 15) (k := 5) (by decide +kernel) (by simp only [List.length_cons]; omega) ho (Or.inl ⟨dL_write_15, rfl⟩) rfl
theorem e103_6 (hcs : Nat.ble (j_cs ST) 8 = true) : Rn X (d + 1) 103 6 LS (.int w :: .int z :: .int y :: .int x :: .ref a :: ST) M h = j_rc (M a) 4 (q_kc X (Rn X d 63 0 [some (.ref a), some (.int x), some (.int y), some (.int z), some (.int w)] [] M (j_h0 h)) h mtI_103 (d + 1) 103 6 9 LS ST) := s_callC mt_103 dL_write_6 cl_8_17 mt_63 rfl rfl (Nat.le_add_left _ _) rfl rfl rfl (by decide) hcs
theorem e103_9 : Rn X d 103 9 LS ([.int x]) M h = some (.inl (some (.int x)), M, h) := r_iret mt_103 dL_write_9 rfl
theorem e103_12 : Rn X d 103 12 LS ST M h = Rn X d 103 14 LS (.int (zM 10) :: ST) M h := r_bipush mt_103 dL_write_12 c_bim11
theorem e103_14 : Rn X d 103 14 LS ([.int x]) M h = some (.inl (some (.int x)), M, h) := r_iret mt_103 dL_write_14 rfl
theorem e103_17 : Rn X d 103 17 LS ST M h = Rn X d 103 19 LS (.int (zM 11) :: ST) M h := r_bipush mt_103 dL_write_17 c_bim12
theorem e103_19 : Rn X d 103 19 LS ([.int x]) M h = some (.inl (some (.int x)), M, h) := r_iret mt_103 dL_write_19 rfl
theorem e104_0 : Rn X d 104 0 (some (.ref a) :: t) ST M h = Rn X d 104 1 (some (.ref a) :: t) (.ref a :: ST) M h := r_aload_n mt_104 dL_spoil_0 rfl
theorem e104_1 : Rn X d 104 1 (l0 :: some (.int x) :: t) ST M h = Rn X d 104 2 (l0 :: some (.int x) :: t) (.int x :: ST) M h := r_iload_n mt_104 dL_spoil_1 rfl
theorem e104_2 : Rn X d 104 2 (l0 :: l1 :: some (.int x) :: t) ST M h = Rn X d 104 3 (l0 :: l1 :: some (.int x) :: t) (.int x :: ST) M h := r_iload_n mt_104 dL_spoil_2 rfl
theorem c104_3_B (ho : j_one l2 = true) : j_cat (Rn X) mtI_104 d 104 3 (l0 :: l1 :: l2 :: l3 :: t) "java/lang/IndexOutOfBoundsException" M h = Rn X d 104 8 (l0 :: l1 :: l2 :: none :: t) [] M h := r_cat (hp := 7) (k := 3) (by decide +kernel) (by simp only [List.length_cons]; omega) ho (Or.inr ⟨3, rfl, dL_spoil_7, rfl⟩) rfl
theorem c104_3_A (ho : j_one l2 = true) : j_cat (Rn X) mtI_104 d 104 3 (l0 :: l1 :: l2 :: l3 :: t) "java/lang/IllegalArgumentException" M h = Rn X d 104 12 (l0 :: l1 :: l2 :: none :: t) [] M h := r_cat (hp := 11) (k := 3) (by decide +kernel) (by simp only [List.length_cons]; omega) ho (Or.inr ⟨3, rfl, dL_spoil_11, rfl⟩) rfl
theorem e104_3 (hcs : Nat.ble (j_cs ST) 8 = true) : Rn X (d + 1) 104 3 LS (.int y :: .int x :: .ref a :: ST) M h = j_rc (M a) 4 (q_kc X (Rn X d 64 0 [some (.ref a), some (.int x), some (.int y)] [] M (j_h0 h)) h mtI_104 (d + 1) 104 3 6 LS ST) := s_callC mt_104 dL_spoil_3 cl_8_23 mt_64 rfl rfl (Nat.le_add_left _ _) rfl rfl rfl (by decide) hcs
theorem e104_6 : Rn X d 104 6 LS ([.int x]) M h = some (.inl (some (.int x)), M, h) := r_iret mt_104 dL_spoil_6 rfl
theorem e104_8 : Rn X d 104 8 LS ST M h = Rn X d 104 10 LS (.int (zM 10) :: ST) M h := r_bipush mt_104 dL_spoil_8 c_bim11
theorem e104_10 : Rn X d 104 10 LS ([.int x]) M h = some (.inl (some (.int x)), M, h) := r_iret mt_104 dL_spoil_10 rfl
theorem e104_12 : Rn X d 104 12 LS ST M h = Rn X d 104 14 LS (.int (zM 11) :: ST) M h := r_bipush mt_104 dL_spoil_12 c_bim12
theorem e104_14 : Rn X d 104 14 LS ([.int x]) M h = some (.inl (some (.int x)), M, h) := r_iret mt_104 dL_spoil_14 rfl
theorem e105_0 : Rn X d 105 0 (some (.ref a) :: t) ST M h = Rn X d 105 1 (some (.ref a) :: t) (.ref a :: ST) M h := r_aload_n mt_105 dL_replay_0 rfl
theorem e105_1 : Rn X d 105 1 (l0 :: some (.int x) :: t) ST M h = Rn X d 105 2 (l0 :: some (.int x) :: t) (.int x :: ST) M h := r_iload_n mt_105 dL_replay_1 rfl
theorem e105_2 : Rn X d 105 2 (l0 :: l1 :: some (.int x) :: t) ST M h = Rn X d 105 3 (l0 :: l1 :: some (.int x) :: t) (.int x :: ST) M h := r_iload_n mt_105 dL_replay_2 rfl
theorem c105_3_B (ho : j_one l2 = true) : j_cat (Rn X) mtI_105 d 105 3 (l0 :: l1 :: l2 :: l3 :: t) "java/lang/IndexOutOfBoundsException" M h = Rn X d 105 8 (l0 :: l1 :: l2 :: none :: t) [] M h := r_cat (hp := 7) (k := 3) (by decide +kernel) (by simp only [List.length_cons]; omega) ho (Or.inr ⟨3, rfl, dL_replay_7, rfl⟩) rfl
theorem c105_3_A (ho : j_one l2 = true) : j_cat (Rn X) mtI_105 d 105 3 (l0 :: l1 :: l2 :: l3 :: t) "java/lang/IllegalArgumentException" M h = Rn X d 105 12 (l0 :: l1 :: l2 :: none :: t) [] M h := r_cat (hp := 11) (k := 3) (by decide +kernel) (by simp only [List.length_cons]; omega) ho (Or.inr ⟨3, rfl, dL_replay_11, rfl⟩) rfl
theorem e105_3 (hcs : Nat.ble (j_cs ST) 8 = true) : Rn X (d + 1) 105 3 LS (.int y :: .int x :: .ref a :: ST) M h = j_rc (M a) 4 (q_kc X (Rn X d 66 0 [some (.ref a), some (.int x), some (.int y)] [] M (j_h0 h)) h mtI_105 (d + 1) 105 3 6 LS ST) := s_callC mt_105 dL_replay_3 cl_8_29 mt_66 rfl rfl (Nat.le_add_left _ _) rfl rfl rfl (by decide) hcs
theorem e105_6 : Rn X d 105 6 LS ([.int x]) M h = some (.inl (some (.int x)), M, h) := r_iret mt_105 dL_replay_6 rfl
theorem e105_8 : Rn X d 105 8 LS ST M h = Rn X d 105 10 LS (.int (zM 10) :: ST) M h := r_bipush mt_105 dL_replay_8 c_bim11
theorem e105_10 : Rn X d 105 10 LS ([.int x]) M h = some (.inl (some (.int x)), M, h) := r_iret mt_105 dL_replay_10 rfl
theorem e105_12 : Rn X d 105 12 LS ST M h = Rn X d 105 14 LS (.int (zM 11) :: ST) M h := r_bipush mt_105 dL_replay_12 c_bim12
theorem e105_14 : Rn X d 105 14 LS ([.int x]) M h = some (.inl (some (.int x)), M, h) := r_iret mt_105 dL_replay_14 rfl
theorem e106_0 : Rn X d 106 0 (some (.ref a) :: t) ST M h = Rn X d 106 1 (some (.ref a) :: t) (.ref a :: ST) M h := r_aload_n mt_106 dL_snapshot_0 rfl
theorem e106_1 : Rn X d 106 1 (l0 :: some (.int x) :: t) ST M h = Rn X d 106 2 (l0 :: some (.int x) :: t) (.int x :: ST) M h := r_iload_n mt_106 dL_snapshot_1 rfl
theorem c106_2_B (ho : j_one l1 = true) : j_cat (Rn X) mtI_106 d 106 2 (l0 :: l1 :: l2 :: t) "java/lang/IndexOutOfBoundsException" M h = Rn X d 106 7 (l0 :: l1 :: none :: t) [] M h := r_cat (hp := 6) (k := 2) (by decide +kernel) (by simp only [List.length_cons]; omega) ho (Or.inr ⟨2, rfl, dL_snapshot_6, rfl⟩) rfl
theorem c106_2_S (ho : j_one l1 = true) : j_cat (Rn X) mtI_106 d 106 2 (l0 :: l1 :: l2 :: t) "java/lang/IllegalStateException" M h = Rn X d 106 11 (l0 :: l1 :: none :: t) [] M h := r_cat (hp := 10) (k := 2) (by decide +kernel) (by simp only [List.length_cons]; omega) ho (Or.inr ⟨2, rfl, dL_snapshot_10, rfl⟩) rfl
theorem e106_2 (hcs : Nat.ble (j_cs ST) 8 = true) : Rn X (d + 1) 106 2 LS (.int x :: .ref a :: ST) M h = j_rc (M a) 4 (q_kc X (Rn X d 67 0 [some (.ref a), some (.int x)] [] M (j_h0 h)) h mtI_106 (d + 1) 106 2 5 LS ST) := s_callC mt_106 dL_snapshot_2 cl_8_32 mt_67 rfl rfl (Nat.le_add_left _ _) rfl rfl rfl (by decide) hcs
theorem e106_5 : Rn X d 106 5 LS ([.int x]) M h = some (.inl (some (.int x)), M, h) := r_iret mt_106 dL_snapshot_5 rfl
theorem e106_7 : Rn X d 106 7 LS ST M h = Rn X d 106 9 LS (.int (zM 10) :: ST) M h := r_bipush mt_106 dL_snapshot_7 c_bim11
theorem e106_9 : Rn X d 106 9 LS ([.int x]) M h = some (.inl (some (.int x)), M, h) := r_iret mt_106 dL_snapshot_9 rfl
theorem e106_11 : Rn X d 106 11 LS ST M h = Rn X d 106 13 LS (.int (zM 11) :: ST) M h := r_bipush mt_106 dL_snapshot_11 c_bim12
theorem e106_13 : Rn X d 106 13 LS ([.int x]) M h = some (.inl (some (.int x)), M, h) := r_iret mt_106 dL_snapshot_13 rfl
theorem e107_0 : Rn X d 107 0 (some (.ref a) :: t) ST M h = Rn X d 107 1 (some (.ref a) :: t) (.ref a :: ST) M h := r_aload_n mt_107 dL_crash_0 rfl
theorem e107_1 : Rn X d 107 1 (l0 :: some (.int x) :: t) ST M h = Rn X d 107 2 (l0 :: some (.int x) :: t) (.int x :: ST) M h := r_iload_n mt_107 dL_crash_1 rfl
theorem c107_2_B (ho : j_one l1 = true) : j_cat (Rn X) mtI_107 d 107 2 (l0 :: l1 :: l2 :: t) "java/lang/IndexOutOfBoundsException" M h = Rn X d 107 7 (l0 :: l1 :: none :: t) [] M h := r_cat (hp := 6) (k := 2) (by decide +kernel) (by simp only [List.length_cons]; omega) ho (Or.inr ⟨2, rfl, dL_crash_6, rfl⟩) rfl
theorem e107_2 (hcs : Nat.ble (j_cs ST) 8 = true) : Rn X (d + 1) 107 2 LS (.int x :: .ref a :: ST) M h = j_rc (M a) 4 (q_kc X (Rn X d 68 0 [some (.ref a), some (.int x)] [] M (j_h0 h)) h mtI_107 (d + 1) 107 2 5 LS ST) := s_callC mt_107 dL_crash_2 cl_8_35 mt_68 rfl rfl (Nat.le_add_left _ _) rfl rfl rfl (by decide) hcs
theorem e107_5 : Rn X d 107 5 LS ([.int x]) M h = some (.inl (some (.int x)), M, h) := r_iret mt_107 dL_crash_5 rfl
theorem e107_7 : Rn X d 107 7 LS ST M h = Rn X d 107 9 LS (.int (zM 10) :: ST) M h := r_bipush mt_107 dL_crash_7 c_bim11
theorem e107_9 : Rn X d 107 9 LS ([.int x]) M h = some (.inl (some (.int x)), M, h) := r_iret mt_107 dL_crash_9 rfl
theorem e108_0 : Rn X d 108 0 (some (.ref a) :: t) ST M h = Rn X d 108 1 (some (.ref a) :: t) (.ref a :: ST) M h := r_aload_n mt_108 dL_link_0 rfl
theorem e108_1 : Rn X d 108 1 (l0 :: some (.int x) :: t) ST M h = Rn X d 108 2 (l0 :: some (.int x) :: t) (.int x :: ST) M h := r_iload_n mt_108 dL_link_1 rfl
theorem e108_2 : Rn X d 108 2 (l0 :: l1 :: some (.int x) :: t) ST M h = Rn X d 108 3 (l0 :: l1 :: some (.int x) :: t) (.int x :: ST) M h := r_iload_n mt_108 dL_link_2 rfl
theorem c108_3_B (ho : j_one l2 = true) : j_cat (Rn X) mtI_108 d 108 3 (l0 :: l1 :: l2 :: l3 :: t) "java/lang/IndexOutOfBoundsException" M h = Rn X d 108 8 (l0 :: l1 :: l2 :: none :: t) [] M h := r_cat (hp := 7) (k := 3) (by decide +kernel) (by simp only [List.length_cons]; omega) ho (Or.inr ⟨3, rfl, dL_link_7, rfl⟩) rfl
theorem c108_3_S (ho : j_one l2 = true) : j_cat (Rn X) mtI_108 d 108 3 (l0 :: l1 :: l2 :: l3 :: t) "java/lang/IllegalStateException" M h = Rn X d 108 12 (l0 :: l1 :: l2 :: none :: t) [] M h := r_cat (hp := 11) (k := 3) (by decide +kernel) (by simp only [List.length_cons]; omega) ho (Or.inr ⟨3, rfl, dL_link_11, rfl⟩) rfl
theorem e108_3 (hcs : Nat.ble (j_cs ST) 8 = true) : Rn X (d + 1) 108 3 LS (.int y :: .int x :: .ref a :: ST) M h = j_rc (M a) 4 (q_kc X (Rn X d 69 0 [some (.ref a), some (.int x), some (.int y)] [] M (j_h0 h)) h mtI_108 (d + 1) 108 3 6 LS ST) := s_callC mt_108 dL_link_3 cl_8_38 mt_69 rfl rfl (Nat.le_add_left _ _) rfl rfl rfl (by decide) hcs
theorem e108_6 : Rn X d 108 6 LS ([.int x]) M h = some (.inl (some (.int x)), M, h) := r_iret mt_108 dL_link_6 rfl
theorem e108_8 : Rn X d 108 8 LS ST M h = Rn X d 108 10 LS (.int (zM 10) :: ST) M h := r_bipush mt_108 dL_link_8 c_bim11
theorem e108_10 : Rn X d 108 10 LS ([.int x]) M h = some (.inl (some (.int x)), M, h) := r_iret mt_108 dL_link_10 rfl
theorem e108_12 : Rn X d 108 12 LS ST M h = Rn X d 108 14 LS (.int (zM 11) :: ST) M h := r_bipush mt_108 dL_link_12 c_bim12
theorem e108_14 : Rn X d 108 14 LS ([.int x]) M h = some (.inl (some (.int x)), M, h) := r_iret mt_108 dL_link_14 rfl
theorem e109_0 : Rn X d 109 0 (some (.ref a) :: t) ST M h = Rn X d 109 1 (some (.ref a) :: t) (.ref a :: ST) M h := r_aload_n mt_109 dL_order_0 rfl
theorem e109_1 : Rn X d 109 1 (l0 :: some (.int x) :: t) ST M h = Rn X d 109 2 (l0 :: some (.int x) :: t) (.int x :: ST) M h := r_iload_n mt_109 dL_order_1 rfl
theorem e109_2 : Rn X d 109 2 (l0 :: l1 :: some (.int x) :: t) ST M h = Rn X d 109 3 (l0 :: l1 :: some (.int x) :: t) (.int x :: ST) M h := r_iload_n mt_109 dL_order_2 rfl
theorem c109_3_B (ho : j_one l2 = true) : j_cat (Rn X) mtI_109 d 109 3 (l0 :: l1 :: l2 :: l3 :: t) "java/lang/IndexOutOfBoundsException" M h = Rn X d 109 8 (l0 :: l1 :: l2 :: none :: t) [] M h := r_cat (hp := 7) (k := 3) (by decide +kernel) (by simp only [List.length_cons]; omega) ho (Or.inr ⟨3, rfl, dL_order_7, rfl⟩) rfl
theorem c109_3_A (ho : j_one l2 = true) : j_cat (Rn X) mtI_109 d 109 3 (l0 :: l1 :: l2 :: l3 :: t) "java/lang/IllegalArgumentException" M h = Rn X d 109 12 (l0 :: l1 :: l2 :: none :: t) [] M h := r_cat (hp := 11) (k := 3) (by decide +kernel) (by simp only [List.length_cons]; omega) ho (Or.inr ⟨3, rfl, dL_order_11, rfl⟩) rfl
theorem e109_3 (hcs : Nat.ble (j_cs ST) 8 = true) : Rn X (d + 1) 109 3 LS (.int y :: .int x :: .ref a :: ST) M h = j_rc (M a) 4 (q_kc X (Rn X d 70 0 [some (.ref a), some (.int x), some (.int y)] [] M (j_h0 h)) h mtI_109 (d + 1) 109 3 6 LS ST) := s_callC mt_109 dL_order_3 cl_8_42 mt_70 rfl rfl (Nat.le_add_left _ _) rfl rfl rfl (by decide) hcs
theorem e109_6 : Rn X d 109 6 LS ([.int x]) M h = some (.inl (some (.int x)), M, h) := r_iret mt_109 dL_order_6 rfl
theorem e109_8 : Rn X d 109 8 LS ST M h = Rn X d 109 10 LS (.int (zM 10) :: ST) M h := r_bipush mt_109 dL_order_8 c_bim11
theorem e109_10 : Rn X d 109 10 LS ([.int x]) M h = some (.inl (some (.int x)), M, h) := r_iret mt_109 dL_order_10 rfl
theorem e109_12 : Rn X d 109 12 LS ST M h = Rn X d 109 14 LS (.int (zM 11) :: ST) M h := r_bipush mt_109 dL_order_12 c_bim12
theorem e109_14 : Rn X d 109 14 LS ([.int x]) M h = some (.inl (some (.int x)), M, h) := r_iret mt_109 dL_order_14 rfl
theorem e110_0 : Rn X d 110 0 (some (.ref a) :: t) ST M h = Rn X d 110 1 (some (.ref a) :: t) (.ref a :: ST) M h := r_aload_n mt_110 dL_ship_0 rfl
theorem e110_1 : Rn X d 110 1 (l0 :: some (.int x) :: t) ST M h = Rn X d 110 2 (l0 :: some (.int x) :: t) (.int x :: ST) M h := r_iload_n mt_110 dL_ship_1 rfl
theorem e110_2 : Rn X d 110 2 (l0 :: l1 :: some (.int x) :: t) ST M h = Rn X d 110 3 (l0 :: l1 :: some (.int x) :: t) (.int x :: ST) M h := r_iload_n mt_110 dL_ship_2 rfl
theorem c110_3_B (ho : j_one l2 = true) : j_cat (Rn X) mtI_110 d 110 3 (l0 :: l1 :: l2 :: l3 :: t) "java/lang/IndexOutOfBoundsException" M h = Rn X d 110 8 (l0 :: l1 :: l2 :: none :: t) [] M h := r_cat (hp := 7) (k := 3) (by decide +kernel) (by simp only [List.length_cons]; omega) ho (Or.inr ⟨3, rfl, dL_ship_7, rfl⟩) rfl
theorem c110_3_A (ho : j_one l2 = true) : j_cat (Rn X) mtI_110 d 110 3 (l0 :: l1 :: l2 :: l3 :: t) "java/lang/IllegalArgumentException" M h = Rn X d 110 12 (l0 :: l1 :: l2 :: none :: t) [] M h := r_cat (hp := 11) (k := 3) (by decide +kernel) (by simp only [List.length_cons]; omega) ho (Or.inr ⟨3, rfl, dL_ship_11, rfl⟩) rfl
theorem e110_3 (hcs : Nat.ble (j_cs ST) 8 = true) : Rn X (d + 1) 110 3 LS (.int y :: .int x :: .ref a :: ST) M h = j_rc (M a) 4 (q_kc X (Rn X d 71 0 [some (.ref a), some (.int x), some (.int y), none] [] M (j_h0 h)) h mtI_110 (d + 1) 110 3 6 LS ST) := s_callC mt_110 dL_ship_3 cl_8_45 mt_71 rfl rfl (Nat.le_add_left _ _) rfl rfl rfl (by decide) hcs
theorem e110_6 : Rn X d 110 6 LS ([.int x]) M h = some (.inl (some (.int x)), M, h) := r_iret mt_110 dL_ship_6 rfl
theorem e110_8 : Rn X d 110 8 LS ST M h = Rn X d 110 10 LS (.int (zM 10) :: ST) M h := r_bipush mt_110 dL_ship_8 c_bim11
theorem e110_10 : Rn X d 110 10 LS ([.int x]) M h = some (.inl (some (.int x)), M, h) := r_iret mt_110 dL_ship_10 rfl
theorem e110_12 : Rn X d 110 12 LS ST M h = Rn X d 110 14 LS (.int (zM 11) :: ST) M h := r_bipush mt_110 dL_ship_12 c_bim12
theorem e110_14 : Rn X d 110 14 LS ([.int x]) M h = some (.inl (some (.int x)), M, h) := r_iret mt_110 dL_ship_14 rfl
theorem e111_0 : Rn X d 111 0 (some (.ref a) :: t) ST M h = Rn X d 111 1 (some (.ref a) :: t) (.ref a :: ST) M h := r_aload_n mt_111 dL_hold_0 rfl
theorem e111_1 : Rn X d 111 1 (l0 :: some (.int x) :: t) ST M h = Rn X d 111 2 (l0 :: some (.int x) :: t) (.int x :: ST) M h := r_iload_n mt_111 dL_hold_1 rfl
theorem e111_2 : Rn X d 111 2 (l0 :: l1 :: some (.int x) :: t) ST M h = Rn X d 111 3 (l0 :: l1 :: some (.int x) :: t) (.int x :: ST) M h := r_iload_n mt_111 dL_hold_2 rfl
theorem c111_3_B (ho : j_one l2 = true) : j_cat (Rn X) mtI_111 d 111 3 (l0 :: l1 :: l2 :: l3 :: t) "java/lang/IndexOutOfBoundsException" M h = Rn X d 111 8 (l0 :: l1 :: l2 :: none :: t) [] M h := r_cat (hp := 7) (k := 3) (by decide +kernel) (by simp only [List.length_cons]; omega) ho (Or.inr ⟨3, rfl, dL_hold_7, rfl⟩) rfl
theorem e111_3 (hcs : Nat.ble (j_cs ST) 8 = true) : Rn X (d + 1) 111 3 LS (.int y :: .int x :: .ref a :: ST) M h = j_rc (M a) 4 (q_kc X (Rn X d 72 0 [some (.ref a), some (.int x), some (.int y)] [] M (j_h0 h)) h mtI_111 (d + 1) 111 3 6 LS ST) := s_callC mt_111 dL_hold_3 cl_8_48 mt_72 rfl rfl (Nat.le_add_left _ _) rfl rfl rfl (by decide) hcs
theorem e111_6 : Rn X d 111 6 LS ([.int x]) M h = some (.inl (some (.int x)), M, h) := r_iret mt_111 dL_hold_6 rfl
theorem e111_8 : Rn X d 111 8 LS ST M h = Rn X d 111 10 LS (.int (zM 10) :: ST) M h := r_bipush mt_111 dL_hold_8 c_bim11
theorem e111_10 : Rn X d 111 10 LS ([.int x]) M h = some (.inl (some (.int x)), M, h) := r_iret mt_111 dL_hold_10 rfl
theorem e112_0 : Rn X d 112 0 (some (.ref a) :: t) ST M h = Rn X d 112 1 (some (.ref a) :: t) (.ref a :: ST) M h := r_aload_n mt_112 dL_value_0 rfl
theorem e112_1 : Rn X d 112 1 (l0 :: some (.int x) :: t) ST M h = Rn X d 112 2 (l0 :: some (.int x) :: t) (.int x :: ST) M h := r_iload_n mt_112 dL_value_1 rfl
theorem c112_2_A (ho : j_one l1 = true) : j_cat (Rn X) mtI_112 d 112 2 (l0 :: l1 :: l2 :: t) "java/lang/IllegalArgumentException" M h = Rn X d 112 7 (l0 :: l1 :: none :: t) [] M h := r_cat (hp := 6) (k := 2) (by decide +kernel) (by simp only [List.length_cons]; omega) ho (Or.inr ⟨2, rfl, dL_value_6, rfl⟩) rfl
theorem e112_2 (hcs : Nat.ble (j_cs ST) 8 = true) : Rn X (d + 1) 112 2 LS (.int x :: .ref a :: ST) M h = j_rc (M a) 4 (q_kc X (Rn X d 73 0 [some (.ref a), some (.int x)] [] M (j_h0 h)) h mtI_112 (d + 1) 112 2 5 LS ST) := s_callC mt_112 dL_value_2 cl_8_51 mt_73 rfl rfl (Nat.le_add_left _ _) rfl rfl rfl (by decide) hcs
theorem e112_5 : Rn X d 112 5 LS ([.int x]) M h = some (.inl (some (.int x)), M, h) := r_iret mt_112 dL_value_5 rfl
theorem e112_7 : Rn X d 112 7 LS ST M h = Rn X d 112 9 LS (.int (zM 10) :: ST) M h := r_bipush mt_112 dL_value_7 c_bim11
theorem e112_9 : Rn X d 112 9 LS ([.int x]) M h = some (.inl (some (.int x)), M, h) := r_iret mt_112 dL_value_9 rfl
theorem e113_0 : Rn X d 113 0 (some (.ref a) :: t) ST M h = Rn X d 113 1 (some (.ref a) :: t) (.ref a :: ST) M h := r_aload_n mt_113 dL_ahead_0 rfl
theorem e113_1 : Rn X d 113 1 (l0 :: some (.int x) :: t) ST M h = Rn X d 113 2 (l0 :: some (.int x) :: t) (.int x :: ST) M h := r_iload_n mt_113 dL_ahead_1 rfl
theorem c113_2_B (ho : j_one l1 = true) : j_cat (Rn X) mtI_113 d 113 2 (l0 :: l1 :: l2 :: t) "java/lang/IndexOutOfBoundsException" M h = Rn X d 113 7 (l0 :: l1 :: none :: t) [] M h := r_cat (hp := 6) (k := 2) (by decide +kernel) (by simp only [List.length_cons]; omega) ho (Or.inr ⟨2, rfl, dL_ahead_6, rfl⟩) rfl
theorem e113_2 (hcs : Nat.ble (j_cs ST) 8 = true) : Rn X (d + 1) 113 2 LS (.int x :: .ref a :: ST) M h = j_rc (M a) 4 (q_kc X (Rn X d 74 0 [some (.ref a), some (.int x), none] [] M (j_h0 h)) h mtI_113 (d + 1) 113 2 5 LS ST) := s_callC mt_113 dL_ahead_2 cl_8_54 mt_74 rfl rfl (Nat.le_add_left _ _) rfl rfl rfl (by decide) hcs
theorem e113_5 : Rn X d 113 5 LS ([.int x]) M h = some (.inl (some (.int x)), M, h) := r_iret mt_113 dL_ahead_5 rfl
theorem e113_7 : Rn X d 113 7 LS ST M h = Rn X d 113 9 LS (.int (zM 10) :: ST) M h := r_bipush mt_113 dL_ahead_7 c_bim11
theorem e113_9 : Rn X d 113 9 LS ([.int x]) M h = some (.inl (some (.int x)), M, h) := r_iret mt_113 dL_ahead_9 rfl
theorem e114_0 : Rn X d 114 0 (some (.ref a) :: t) ST M h = Rn X d 114 1 (some (.ref a) :: t) (.ref a :: ST) M h := r_aload_n mt_114 dL_stop_0 rfl
theorem e114_1 : Rn X d 114 1 (l0 :: some (.int x) :: t) ST M h = Rn X d 114 2 (l0 :: some (.int x) :: t) (.int x :: ST) M h := r_iload_n mt_114 dL_stop_1 rfl
theorem c114_2_B (ho : j_one l1 = true) : j_cat (Rn X) mtI_114 d 114 2 (l0 :: l1 :: l2 :: t) "java/lang/IndexOutOfBoundsException" M h = Rn X d 114 7 (l0 :: l1 :: none :: t) [] M h := r_cat (hp := 6) (k := 2) (by decide +kernel) (by simp only [List.length_cons]; omega) ho (Or.inr ⟨2, rfl, dL_stop_6, rfl⟩) rfl
theorem e114_2 (hcs : Nat.ble (j_cs ST) 8 = true) : Rn X (d + 1) 114 2 LS (.int x :: .ref a :: ST) M h = j_rc (M a) 4 (q_kc X (Rn X d 75 0 [some (.ref a), some (.int x)] [] M (j_h0 h)) h mtI_114 (d + 1) 114 2 5 LS ST) := s_callC mt_114 dL_stop_2 cl_8_57 mt_75 rfl rfl (Nat.le_add_left _ _) rfl rfl rfl (by decide) hcs
theorem e114_5 : Rn X d 114 5 LS ([.int x]) M h = some (.inl (some (.int x)), M, h) := r_iret mt_114 dL_stop_5 rfl
theorem e114_7 : Rn X d 114 7 LS ST M h = Rn X d 114 9 LS (.int (zM 10) :: ST) M h := r_bipush mt_114 dL_stop_7 c_bim11
theorem e114_9 : Rn X d 114 9 LS ([.int x]) M h = some (.inl (some (.int x)), M, h) := r_iret mt_114 dL_stop_9 rfl
theorem e115_0 : Rn X d 115 0 (some (.ref a) :: t) ST M h = Rn X d 115 1 (some (.ref a) :: t) (.ref a :: ST) M h := r_aload_n mt_115 dL_tonsAt_0 rfl
theorem e115_1 : Rn X d 115 1 (l0 :: some (.int x) :: t) ST M h = Rn X d 115 2 (l0 :: some (.int x) :: t) (.int x :: ST) M h := r_iload_n mt_115 dL_tonsAt_1 rfl
theorem e115_2 : Rn X d 115 2 (l0 :: l1 :: some (.int x) :: t) ST M h = Rn X d 115 3 (l0 :: l1 :: some (.int x) :: t) (.int x :: ST) M h := r_iload_n mt_115 dL_tonsAt_2 rfl
theorem c115_3_B (ho : j_one l2 = true) : j_cat (Rn X) mtI_115 d 115 3 (l0 :: l1 :: l2 :: l3 :: t) "java/lang/IndexOutOfBoundsException" M h = Rn X d 115 8 (l0 :: l1 :: l2 :: none :: t) [] M h := r_cat (hp := 7) (k := 3) (by decide +kernel) (by simp only [List.length_cons]; omega) ho (Or.inr ⟨3, rfl, dL_tonsAt_7, rfl⟩) rfl
theorem e115_3 (hcs : Nat.ble (j_cs ST) 8 = true) : Rn X (d + 1) 115 3 LS (.int y :: .int x :: .ref a :: ST) M h = j_rc (M a) 4 (q_kc X (Rn X d 76 0 [some (.ref a), some (.int x), some (.int y), none, none] [] M (j_h0 h)) h mtI_115 (d + 1) 115 3 6 LS ST) := s_callC mt_115 dL_tonsAt_3 cl_8_60 mt_76 rfl rfl (Nat.le_add_left _ _) rfl rfl rfl (by decide) hcs
theorem e115_6 : Rn X d 115 6 LS ([.int x]) M h = some (.inl (some (.int x)), M, h) := r_iret mt_115 dL_tonsAt_6 rfl
theorem e115_8 : Rn X d 115 8 LS ST M h = Rn X d 115 10 LS (.int (zM 10) :: ST) M h := r_bipush mt_115 dL_tonsAt_8 c_bim11
theorem e115_10 : Rn X d 115 10 LS ([.int x]) M h = some (.inl (some (.int x)), M, h) := r_iret mt_115 dL_tonsAt_10 rfl
theorem e116_0 : Rn X d 116 0 (some (.ref a) :: t) ST M h = Rn X d 116 1 (some (.ref a) :: t) (.ref a :: ST) M h := r_aload_n mt_116 dL_roomBy_0 rfl
theorem e116_1 : Rn X d 116 1 (l0 :: some (.int x) :: t) ST M h = Rn X d 116 2 (l0 :: some (.int x) :: t) (.int x :: ST) M h := r_iload_n mt_116 dL_roomBy_1 rfl
theorem c116_2_B (ho : j_one l1 = true) : j_cat (Rn X) mtI_116 d 116 2 (l0 :: l1 :: l2 :: t) "java/lang/IndexOutOfBoundsException" M h = Rn X d 116 7 (l0 :: l1 :: none :: t) [] M h := r_cat (hp := 6) (k := 2) (by decide +kernel) (by simp only [List.length_cons]; omega) ho (Or.inr ⟨2, rfl, dL_roomBy_6, rfl⟩) rfl
theorem e116_2 (hcs : Nat.ble (j_cs ST) 8 = true) : Rn X (d + 1) 116 2 LS (.int x :: .ref a :: ST) M h = j_rc (M a) 4 (q_kc X (Rn X d 78 0 [some (.ref a), some (.int x), none, none] [] M (j_h0 h)) h mtI_116 (d + 1) 116 2 5 LS ST) := s_callC mt_116 dL_roomBy_2 cl_8_63 mt_78 rfl rfl (Nat.le_add_left _ _) rfl rfl rfl (by decide) hcs
theorem e116_5 : Rn X d 116 5 LS ([.int x]) M h = some (.inl (some (.int x)), M, h) := r_iret mt_116 dL_roomBy_5 rfl
theorem e116_7 : Rn X d 116 7 LS ST M h = Rn X d 116 9 LS (.int (zM 10) :: ST) M h := r_bipush mt_116 dL_roomBy_7 c_bim11
theorem e116_9 : Rn X d 116 9 LS ([.int x]) M h = some (.inl (some (.int x)), M, h) := r_iret mt_116 dL_roomBy_9 rfl
theorem e117_0 : Rn X d 117 0 (some (.ref a) :: t) ST M h = Rn X d 117 1 (some (.ref a) :: t) (.ref a :: ST) M h := r_aload_n mt_117 dL_append_0 rfl
theorem e117_1 : Rn X d 117 1 (l0 :: some (.int x) :: t) ST M h = Rn X d 117 2 (l0 :: some (.int x) :: t) (.int x :: ST) M h := r_iload_n mt_117 dL_append_1 rfl
theorem c117_2_A (ho : j_one l1 = true) : j_cat (Rn X) mtI_117 d 117 2 (l0 :: l1 :: l2 :: t) "java/lang/IllegalArgumentException" M h = Rn X d 117 7 (l0 :: l1 :: none :: t) [] M h := r_cat (hp := 6) (k := 2) (by decide +kernel) (by simp only [List.length_cons]; omega) ho (Or.inr ⟨2, rfl, dL_append_6, rfl⟩) rfl
theorem c117_2_S (ho : j_one l1 = true) : j_cat (Rn X) mtI_117 d 117 2 (l0 :: l1 :: l2 :: t) "java/lang/IllegalStateException" M h = Rn X d 117 11 (l0 :: l1 :: none :: t) [] M h := r_cat (hp := 10) (k := 2) (by decide +kernel) (by simp only [List.length_cons]; omega) ho (Or.inr ⟨2, rfl, dL_append_10, rfl⟩) rfl
theorem e117_2 (hcs : Nat.ble (j_cs ST) 8 = true) : Rn X (d + 1) 117 2 LS (.int x :: .ref a :: ST) M h = j_rc (M a) 4 (q_kc X (Rn X d 81 0 [some (.ref a), some (.int x)] [] M (j_h0 h)) h mtI_117 (d + 1) 117 2 5 LS ST) := s_callC mt_117 dL_append_2 cl_8_66 mt_81 rfl rfl (Nat.le_add_left _ _) rfl rfl rfl (by decide) hcs
theorem e117_5 : Rn X d 117 5 LS ([.int x]) M h = some (.inl (some (.int x)), M, h) := r_iret mt_117 dL_append_5 rfl
theorem e117_7 : Rn X d 117 7 LS ST M h = Rn X d 117 9 LS (.int (zM 10) :: ST) M h := r_bipush mt_117 dL_append_7 c_bim11
theorem e117_9 : Rn X d 117 9 LS ([.int x]) M h = some (.inl (some (.int x)), M, h) := r_iret mt_117 dL_append_9 rfl
theorem e117_11 : Rn X d 117 11 LS ST M h = Rn X d 117 13 LS (.int (zM 11) :: ST) M h := r_bipush mt_117 dL_append_11 c_bim12
theorem e117_13 : Rn X d 117 13 LS ([.int x]) M h = some (.inl (some (.int x)), M, h) := r_iret mt_117 dL_append_13 rfl
theorem e118_0 : Rn X d 118 0 (some (.ref a) :: t) ST M h = Rn X d 118 1 (some (.ref a) :: t) (.ref a :: ST) M h := r_aload_n mt_118 dL_undo_0 rfl
theorem c118_1_S (ho : j_one l0 = true) : j_cat (Rn X) mtI_118 d 118 1 (l0 :: l1 :: t) "java/lang/IllegalStateException" M h = Rn X d 118 6 (l0 :: none :: t) [] M h := r_cat (hp := 5) (k := 1) (by decide +kernel) (by simp only [List.length_cons]; omega) ho (Or.inr ⟨1, rfl, dL_undo_5, rfl⟩) rfl
theorem e118_1 (hcs : Nat.ble (j_cs ST) 8 = true) : Rn X (d + 1) 118 1 LS (.ref a :: ST) M h = j_rc (M a) 4 (q_kc X (Rn X d 84 0 [some (.ref a)] [] M (j_h0 h)) h mtI_118 (d + 1) 118 1 4 LS ST) := s_callC mt_118 dL_undo_1 cl_8_69 mt_84 rfl rfl (Nat.le_add_left _ _) rfl rfl rfl (by decide) hcs
theorem e118_4 : Rn X d 118 4 LS ([.int x]) M h = some (.inl (some (.int x)), M, h) := r_iret mt_118 dL_undo_4 rfl
theorem e118_6 : Rn X d 118 6 LS ST M h = Rn X d 118 8 LS (.int (zM 10) :: ST) M h := r_bipush mt_118 dL_undo_6 c_bim11
theorem e118_8 : Rn X d 118 8 LS ([.int x]) M h = some (.inl (some (.int x)), M, h) := r_iret mt_118 dL_undo_8 rfl
theorem e119_0 : Rn X d 119 0 (some (.int x) :: t) ST M h = Rn X d 119 1 (some (.int x) :: t) (.int x :: ST) M h := r_iload_n mt_119 dL_lesser_0 rfl
theorem e119_1 : Rn X d 119 1 (l0 :: some (.int x) :: t) ST M h = Rn X d 119 2 (l0 :: some (.int x) :: t) (.int x :: ST) M h := r_iload_n mt_119 dL_lesser_1 rfl
theorem e119_2 : Rn X d 119 2 LS (.int y :: .int x :: ST) M h = q_le X y x d 119 9 5 LS ST M h := s_icge mt_119 dL_lesser_2 rfl
theorem e119_5 : Rn X d 119 5 (some (.int x) :: t) ST M h = Rn X d 119 6 (some (.int x) :: t) (.int x :: ST) M h := r_iload_n mt_119 dL_lesser_5 rfl
theorem e119_6 : Rn X d 119 6 LS ST M h = Rn X d 119 10 LS ST M h := r_goto mt_119 dL_lesser_6 rfl
theorem e119_9 : Rn X d 119 9 (l0 :: some (.int x) :: t) ST M h = Rn X d 119 10 (l0 :: some (.int x) :: t) (.int x :: ST) M h := r_iload_n mt_119 dL_lesser_9 rfl
theorem e119_10 : Rn X d 119 10 LS ([.int x]) M h = some (.inl (some (.int x)), M, h) := r_iret mt_119 dL_lesser_10 rfl
theorem e120_0 : Rn X d 120 0 (some (.ref a) :: t) ST M h = Rn X d 120 1 (some (.ref a) :: t) (.ref a :: ST) M h := r_aload_n mt_120 dL_isSound_0 rfl
theorem e120_1 : Rn X d 120 1 LS ST M h = Rn X d 120 2 LS (.int (zN 1) :: ST) M h := r_iconst mt_120 dL_isSound_1 c_ic1
theorem e120_2 (hcs : Nat.ble (j_cs ST) 8 = true) : Rn X (d + 1) 120 2 LS (.int x :: .ref a :: ST) M h = q_k X (Rn X d 112 0 [some (.ref a), some (.int x), none] [] M (j_h0 h)) h (d + 1) 120 5 LS ST := s_callS (Or.inr (Or.inl rfl)) mt_120 dL_isSound_2 cl_8_73 mt_112 rfl (Nat.le_add_left _ _) rfl rfl rfl rfl hcs
theorem e120_5 (ho : j_one l0 = true) : Rn X d 120 5 (l0 :: l1 :: t) (.int x :: ST) M h = Rn X d 120 6 (l0 :: some (.int x) :: t) ST M h := r_istore_n mt_120 dL_isSound_5 (by show 1 < _; simp only [List.length_cons]; omega) ho rfl
theorem e120_6 : Rn X d 120 6 (some (.ref a) :: t) ST M h = Rn X d 120 7 (some (.ref a) :: t) (.ref a :: ST) M h := r_aload_n mt_120 dL_isSound_6 rfl
theorem e120_7 : Rn X d 120 7 LS ST M h = Rn X d 120 8 LS (.int (zN 2) :: ST) M h := r_iconst mt_120 dL_isSound_7 c_ic2
theorem e120_8 (hcs : Nat.ble (j_cs ST) 8 = true) : Rn X (d + 1) 120 8 LS (.int x :: .ref a :: ST) M h = q_k X (Rn X d 112 0 [some (.ref a), some (.int x), none] [] M (j_h0 h)) h (d + 1) 120 11 LS ST := s_callS (Or.inr (Or.inl rfl)) mt_120 dL_isSound_8 cl_8_73 mt_112 rfl (Nat.le_add_left _ _) rfl rfl rfl rfl hcs
theorem e120_11 (ho : j_one l1 = true) : Rn X d 120 11 (l0 :: l1 :: l2 :: t) (.int x :: ST) M h = Rn X d 120 12 (l0 :: l1 :: some (.int x) :: t) ST M h := r_istore_n mt_120 dL_isSound_11 (by show 2 < _; simp only [List.length_cons]; omega) ho rfl
theorem e120_12 : Rn X d 120 12 LS ST M h = Rn X d 120 13 LS (.int (zN 0) :: ST) M h := r_iconst mt_120 dL_isSound_12 c_ic0
theorem e120_13 (ho : j_one l2 = true) : Rn X d 120 13 (l0 :: l1 :: l2 :: l3 :: t) (.int x :: ST) M h = Rn X d 120 14 (l0 :: l1 :: l2 :: some (.int x) :: t) ST M h := r_istore_n mt_120 dL_isSound_13 (by show 3 < _; simp only [List.length_cons]; omega) ho rfl
theorem e120_14 : Rn X d 120 14 LS ST M h = Rn X d 120 15 LS (.int (zN 0) :: ST) M h := r_iconst mt_120 dL_isSound_14 c_ic0
theorem e120_15 (ho : j_one l3 = true) : Rn X d 120 15 (l0 :: l1 :: l2 :: l3 :: l4 :: t) (.int x :: ST) M h = Rn X d 120 17 (l0 :: l1 :: l2 :: l3 :: some (.int x) :: t) ST M h := r_istore mt_120 dL_isSound_15 (by show 4 < _; simp only [List.length_cons]; omega) ho rfl
theorem e120_17 : Rn X d 120 17 (some (.ref a) :: t) ST M h = Rn X d 120 18 (some (.ref a) :: t) (.ref a :: ST) M h := r_aload_n mt_120 dL_isSound_17 rfl
theorem e120_18 : Rn X d 120 18 LS ST M h = Rn X d 120 19 LS (.int (zN 3) :: ST) M h := r_iconst mt_120 dL_isSound_18 c_ic3
theorem e120_19 (hcs : Nat.ble (j_cs ST) 8 = true) : Rn X (d + 1) 120 19 LS (.int x :: .ref a :: ST) M h = q_k X (Rn X d 112 0 [some (.ref a), some (.int x), none] [] M (j_h0 h)) h (d + 1) 120 22 LS ST := s_callS (Or.inr (Or.inl rfl)) mt_120 dL_isSound_19 cl_8_73 mt_112 rfl (Nat.le_add_left _ _) rfl rfl rfl rfl hcs
theorem e120_22 : Rn X d 120 22 (l0 :: l1 :: some (.int x) :: t) ST M h = Rn X d 120 23 (l0 :: l1 :: some (.int x) :: t) (.int x :: ST) M h := r_iload_n mt_120 dL_isSound_22 rfl
theorem e120_23 : Rn X d 120 23 (l0 :: some (.int x) :: t) ST M h = Rn X d 120 24 (l0 :: some (.int x) :: t) (.int x :: ST) M h := r_iload_n mt_120 dL_isSound_23 rfl
theorem e120_24 : Rn X d 120 24 LS (.int y :: .int x :: ST) M h = Rn X d 120 25 LS (.int (x - y) :: ST) M h := r_isub mt_120 dL_isSound_24
theorem e120_25 : Rn X d 120 25 LS (.int y :: .int x :: ST) M h = q_eq X x y d 120 28 88 LS ST M h := s_icne mt_120 dL_isSound_25 rfl
theorem e120_28 : Rn X d 120 28 (some (.ref a) :: t) ST M h = Rn X d 120 29 (some (.ref a) :: t) (.ref a :: ST) M h := r_aload_n mt_120 dL_isSound_28 rfl
theorem e120_29 : Rn X d 120 29 LS ST M h = Rn X d 120 30 LS (.int (zN 3) :: ST) M h := r_iconst mt_120 dL_isSound_29 c_ic3
theorem e120_30 (hcs : Nat.ble (j_cs ST) 8 = true) : Rn X (d + 1) 120 30 LS (.int x :: .ref a :: ST) M h = q_k X (Rn X d 112 0 [some (.ref a), some (.int x), none] [] M (j_h0 h)) h (d + 1) 120 33 LS ST := s_callS (Or.inr (Or.inl rfl)) mt_120 dL_isSound_30 cl_8_73 mt_112 rfl (Nat.le_add_left _ _) rfl rfl rfl rfl hcs
theorem e120_33 : Rn X d 120 33 (some (.ref a) :: t) ST M h = Rn X d 120 34 (some (.ref a) :: t) (.ref a :: ST) M h := r_aload_n mt_120 dL_isSound_33 rfl
theorem e120_34 : Rn X d 120 34 LS ST M h = Rn X d 120 35 LS (.int (zN 0) :: ST) M h := r_iconst mt_120 dL_isSound_34 c_ic0
theorem e120_35 (hcs : Nat.ble (j_cs ST) 8 = true) : Rn X (d + 1) 120 35 LS (.int x :: .ref a :: ST) M h = q_k X (Rn X d 112 0 [some (.ref a), some (.int x), none] [] M (j_h0 h)) h (d + 1) 120 38 LS ST := s_callS (Or.inr (Or.inl rfl)) mt_120 dL_isSound_35 cl_8_73 mt_112 rfl (Nat.le_add_left _ _) rfl rfl rfl rfl hcs
theorem e120_38 : Rn X d 120 38 LS (.int y :: .int x :: ST) M h = q_lt X y x d 120 88 41 LS ST M h := s_icgt mt_120 dL_isSound_38 rfl
theorem e120_41 : Rn X d 120 41 (l0 :: some (.int x) :: t) ST M h = Rn X d 120 42 (l0 :: some (.int x) :: t) (.int x :: ST) M h := r_iload_n mt_120 dL_isSound_41 rfl
theorem e120_42 : Rn X d 120 42 (some (.ref a) :: t) ST M h = Rn X d 120 43 (some (.ref a) :: t) (.ref a :: ST) M h := r_aload_n mt_120 dL_isSound_42 rfl
theorem e120_43 : Rn X d 120 43 LS ST M h = Rn X d 120 44 LS (.int (zN 0) :: ST) M h := r_iconst mt_120 dL_isSound_43 c_ic0
theorem e120_44 : Rn X d 120 44 LS ST M h = Rn X d 120 45 LS (.int (zN 1) :: ST) M h := r_iconst mt_120 dL_isSound_44 c_ic1
theorem e120_45 (hcs : Nat.ble (j_cs ST) 8 = true) : Rn X (d + 1) 120 45 LS (.int y :: .int x :: .ref a :: ST) M h = q_k X (Rn X d 110 0 [some (.ref a), some (.int x), some (.int y), none] [] M (j_h0 h)) h (d + 1) 120 48 LS ST := s_callS (Or.inr (Or.inl rfl)) mt_120 dL_isSound_45 cl_8_78 mt_110 rfl (Nat.le_add_left _ _) rfl rfl rfl rfl hcs
theorem e120_48 : Rn X d 120 48 (some (.ref a) :: t) ST M h = Rn X d 120 49 (some (.ref a) :: t) (.ref a :: ST) M h := r_aload_n mt_120 dL_isSound_48 rfl
theorem e120_49 : Rn X d 120 49 LS ST M h = Rn X d 120 50 LS (.int (zN 1) :: ST) M h := r_iconst mt_120 dL_isSound_49 c_ic1
theorem e120_50 : Rn X d 120 50 LS ST M h = Rn X d 120 51 LS (.int (zN 1) :: ST) M h := r_iconst mt_120 dL_isSound_50 c_ic1
theorem e120_51 (hcs : Nat.ble (j_cs ST) 8 = true) : Rn X (d + 1) 120 51 LS (.int y :: .int x :: .ref a :: ST) M h = q_k X (Rn X d 110 0 [some (.ref a), some (.int x), some (.int y), none] [] M (j_h0 h)) h (d + 1) 120 54 LS ST := s_callS (Or.inr (Or.inl rfl)) mt_120 dL_isSound_51 cl_8_78 mt_110 rfl (Nat.le_add_left _ _) rfl rfl rfl rfl hcs
theorem e120_54 (hcs : Nat.ble (j_cs ST) 8 = true) : Rn X (d + 1) 120 54 LS (.int y :: .int x :: ST) M h = q_k X (Rn X d 119 0 [some (.int x), some (.int y)] [] M (j_h0 h)) h (d + 1) 120 57 LS ST := s_callS (Or.inl rfl) mt_120 dL_isSound_54 cl_8_81 mt_119 rfl (Nat.le_add_left _ _) rfl rfl rfl rfl hcs
theorem e120_57 : Rn X d 120 57 LS (.int y :: .int x :: ST) M h = q_eq X x y d 120 60 88 LS ST M h := s_icne mt_120 dL_isSound_57 rfl
theorem e120_60 : Rn X d 120 60 (some (.ref a) :: t) ST M h = Rn X d 120 61 (some (.ref a) :: t) (.ref a :: ST) M h := r_aload_n mt_120 dL_isSound_60 rfl
theorem e120_61 : Rn X d 120 61 (l0 :: l1 :: some (.int x) :: t) ST M h = Rn X d 120 62 (l0 :: l1 :: some (.int x) :: t) (.int x :: ST) M h := r_iload_n mt_120 dL_isSound_61 rfl
theorem e120_62 : Rn X d 120 62 LS ST M h = Rn X d 120 63 LS (.int (zN 0) :: ST) M h := r_iconst mt_120 dL_isSound_62 c_ic0
theorem e120_63 (hcs : Nat.ble (j_cs ST) 8 = true) : Rn X (d + 1) 120 63 LS (.int y :: .int x :: .ref a :: ST) M h = q_k X (Rn X d 109 0 [some (.ref a), some (.int x), some (.int y), none] [] M (j_h0 h)) h (d + 1) 120 66 LS ST := s_callS (Or.inr (Or.inl rfl)) mt_120 dL_isSound_63 cl_8_84 mt_109 rfl (Nat.le_add_left _ _) rfl rfl rfl rfl hcs
theorem e120_66 : Rn X d 120 66 LS ST M h = Rn X d 120 68 LS (.int (zM 10) :: ST) M h := r_bipush mt_120 dL_isSound_66 c_bim11
theorem e120_68 : Rn X d 120 68 LS (.int y :: .int x :: ST) M h = q_eq X x y d 120 71 88 LS ST M h := s_icne mt_120 dL_isSound_68 rfl
theorem e120_71 : Rn X d 120 71 (some (.ref a) :: t) ST M h = Rn X d 120 72 (some (.ref a) :: t) (.ref a :: ST) M h := r_aload_n mt_120 dL_isSound_71 rfl
theorem e120_72 : Rn X d 120 72 (l0 :: some (.int x) :: t) ST M h = Rn X d 120 73 (l0 :: some (.int x) :: t) (.int x :: ST) M h := r_iload_n mt_120 dL_isSound_72 rfl
theorem e120_73 : Rn X d 120 73 LS ST M h = Rn X d 120 74 LS (.int (zN 1) :: ST) M h := r_iconst mt_120 dL_isSound_73 c_ic1
theorem e120_74 : Rn X d 120 74 LS (.int y :: .int x :: ST) M h = Rn X d 120 75 LS (.int (x - y) :: ST) M h := r_isub mt_120 dL_isSound_74
theorem e120_75 : Rn X d 120 75 LS ST M h = Rn X d 120 76 LS (.int (zN 0) :: ST) M h := r_iconst mt_120 dL_isSound_75 c_ic0
theorem e120_76 (hcs : Nat.ble (j_cs ST) 8 = true) : Rn X (d + 1) 120 76 LS (.int y :: .int x :: .ref a :: ST) M h = q_k X (Rn X d 109 0 [some (.ref a), some (.int x), some (.int y), none] [] M (j_h0 h)) h (d + 1) 120 79 LS ST := s_callS (Or.inr (Or.inl rfl)) mt_120 dL_isSound_76 cl_8_84 mt_109 rfl (Nat.le_add_left _ _) rfl rfl rfl rfl hcs
theorem e120_79 : Rn X d 120 79 LS ST M h = Rn X d 120 81 LS (.int (zM 10) :: ST) M h := r_bipush mt_120 dL_isSound_79 c_bim11
theorem e120_81 : Rn X d 120 81 LS (.int y :: .int x :: ST) M h = q_eq X x y d 120 84 88 LS ST M h := s_icne mt_120 dL_isSound_81 rfl
theorem e120_84 : Rn X d 120 84 LS ST M h = Rn X d 120 85 LS (.int (zN 1) :: ST) M h := r_iconst mt_120 dL_isSound_84 c_ic1
theorem e120_85 : Rn X d 120 85 LS ST M h = Rn X d 120 89 LS ST M h := r_goto mt_120 dL_isSound_85 rfl
theorem e120_88 : Rn X d 120 88 LS ST M h = Rn X d 120 89 LS (.int (zN 0) :: ST) M h := r_iconst mt_120 dL_isSound_88 c_ic0
theorem e120_89 (ho : j_one l4 = true) : Rn X d 120 89 (l0 :: l1 :: l2 :: l3 :: l4 :: l5 :: t) (.int x :: ST) M h = Rn X d 120 91 (l0 :: l1 :: l2 :: l3 :: l4 :: some (.int x) :: t) ST M h := r_istore mt_120 dL_isSound_89 (by show 5 < _; simp only [List.length_cons]; omega) ho rfl
theorem e120_91 : Rn X d 120 91 (l0 :: some (.int x) :: t) ST M h = Rn X d 120 92 (l0 :: some (.int x) :: t) (.int x :: ST) M h := r_iload_n mt_120 dL_isSound_91 rfl
theorem e120_92 (ho : j_one l5 = true) : Rn X d 120 92 (l0 :: l1 :: l2 :: l3 :: l4 :: l5 :: l6 :: t) (.int x :: ST) M h = Rn X d 120 94 (l0 :: l1 :: l2 :: l3 :: l4 :: l5 :: some (.int x) :: t) ST M h := r_istore mt_120 dL_isSound_92 (by show 6 < _; simp only [List.length_cons]; omega) ho rfl
theorem e120_94 : Rn X d 120 94 (l0 :: l1 :: l2 :: l3 :: l4 :: l5 :: some (.int x) :: t) ST M h = Rn X d 120 96 (l0 :: l1 :: l2 :: l3 :: l4 :: l5 :: some (.int x) :: t) (.int x :: ST) M h := r_iload mt_120 dL_isSound_94 rfl
theorem e120_96 : Rn X d 120 96 (l0 :: l1 :: some (.int x) :: t) ST M h = Rn X d 120 97 (l0 :: l1 :: some (.int x) :: t) (.int x :: ST) M h := r_iload_n mt_120 dL_isSound_96 rfl
theorem e120_97 : Rn X d 120 97 LS (.int y :: .int x :: ST) M h = q_le X y x d 120 239 100 LS ST M h := s_icge mt_120 dL_isSound_97 rfl
theorem e120_100 : Rn X d 120 100 (l0 :: l1 :: l2 :: l3 :: l4 :: some (.int x) :: t) ST M h = Rn X d 120 102 (l0 :: l1 :: l2 :: l3 :: l4 :: some (.int x) :: t) (.int x :: ST) M h := r_iload mt_120 dL_isSound_100 rfl
theorem e120_102 : Rn X d 120 102 LS (.int x :: ST) M h = q_eq X x (zN 0) d 120 239 105 LS ST M h := s_ifeq mt_120 dL_isSound_102 rfl
theorem e120_105 : Rn X d 120 105 (some (.ref a) :: t) ST M h = Rn X d 120 106 (some (.ref a) :: t) (.ref a :: ST) M h := r_aload_n mt_120 dL_isSound_105 rfl
theorem e120_106 : Rn X d 120 106 (l0 :: l1 :: l2 :: l3 :: l4 :: l5 :: some (.int x) :: t) ST M h = Rn X d 120 108 (l0 :: l1 :: l2 :: l3 :: l4 :: l5 :: some (.int x) :: t) (.int x :: ST) M h := r_iload mt_120 dL_isSound_106 rfl
theorem e120_108 : Rn X d 120 108 LS ST M h = Rn X d 120 109 LS (.int (zN 4) :: ST) M h := r_iconst mt_120 dL_isSound_108 c_ic4
theorem e120_109 (hcs : Nat.ble (j_cs ST) 8 = true) : Rn X (d + 1) 120 109 LS (.int y :: .int x :: .ref a :: ST) M h = q_k X (Rn X d 109 0 [some (.ref a), some (.int x), some (.int y), none] [] M (j_h0 h)) h (d + 1) 120 112 LS ST := s_callS (Or.inr (Or.inl rfl)) mt_120 dL_isSound_109 cl_8_84 mt_109 rfl (Nat.le_add_left _ _) rfl rfl rfl rfl hcs
theorem e120_112 (ho : j_one l6 = true) : Rn X d 120 112 (l0 :: l1 :: l2 :: l3 :: l4 :: l5 :: l6 :: l7 :: t) (.int x :: ST) M h = Rn X d 120 114 (l0 :: l1 :: l2 :: l3 :: l4 :: l5 :: l6 :: some (.int x) :: t) ST M h := r_istore mt_120 dL_isSound_112 (by show 7 < _; simp only [List.length_cons]; omega) ho rfl
theorem e120_114 : Rn X d 120 114 (l0 :: l1 :: l2 :: some (.int x) :: t) ST M h = Rn X d 120 115 (l0 :: l1 :: l2 :: some (.int x) :: t) (.int x :: ST) M h := r_iload_n mt_120 dL_isSound_114 rfl
theorem e120_115 : Rn X d 120 115 (l0 :: l1 :: l2 :: l3 :: l4 :: l5 :: l6 :: some (.int x) :: t) ST M h = Rn X d 120 117 (l0 :: l1 :: l2 :: l3 :: l4 :: l5 :: l6 :: some (.int x) :: t) (.int x :: ST) M h := r_iload mt_120 dL_isSound_115 rfl
theorem e120_117 : Rn X d 120 117 LS ST M h = Rn X d 120 118 LS (.int (zN 1) :: ST) M h := r_iconst mt_120 dL_isSound_117 c_ic1
theorem e120_118 : Rn X d 120 118 LS (.int y :: .int x :: ST) M h = Rn X d 120 119 LS (.int (x &&& y) :: ST) M h := r_iand mt_120 dL_isSound_118
theorem e120_119 : Rn X d 120 119 (l0 :: l1 :: l2 :: l3 :: l4 :: l5 :: l6 :: some (.int x) :: t) ST M h = Rn X d 120 121 (l0 :: l1 :: l2 :: l3 :: l4 :: l5 :: l6 :: some (.int x) :: t) (.int x :: ST) M h := r_iload mt_120 dL_isSound_119 rfl
theorem e120_121 : Rn X d 120 121 LS ST M h = Rn X d 120 122 LS (.int (zN 1) :: ST) M h := r_iconst mt_120 dL_isSound_121 c_ic1
theorem e120_122 : Rn X d 120 122 LS (.int y :: .int x :: ST) M h = Rn X d 120 123 LS (.int (x >>> (y &&& 31)) :: ST) M h := r_ishr mt_120 dL_isSound_122
theorem e120_123 : Rn X d 120 123 LS (.int y :: .int x :: ST) M h = Rn X d 120 124 LS (.int (x + y) :: ST) M h := r_iadd mt_120 dL_isSound_123
theorem e120_124 : Rn X d 120 124 LS (.int y :: .int x :: ST) M h = Rn X d 120 125 LS (.int (x + y) :: ST) M h := r_iadd mt_120 dL_isSound_124
theorem e120_125 (ho : j_one l2 = true) : Rn X d 120 125 (l0 :: l1 :: l2 :: l3 :: t) (.int x :: ST) M h = Rn X d 120 126 (l0 :: l1 :: l2 :: some (.int x) :: t) ST M h := r_istore_n mt_120 dL_isSound_125 (by show 3 < _; simp only [List.length_cons]; omega) ho rfl
theorem e120_126 : Rn X d 120 126 (l0 :: l1 :: l2 :: l3 :: some (.int x) :: t) ST M h = Rn X d 120 128 (l0 :: l1 :: l2 :: l3 :: some (.int x) :: t) (.int x :: ST) M h := r_iload mt_120 dL_isSound_126 rfl
theorem e120_128 : Rn X d 120 128 (l0 :: l1 :: l2 :: l3 :: l4 :: l5 :: l6 :: some (.int x) :: t) ST M h = Rn X d 120 130 (l0 :: l1 :: l2 :: l3 :: l4 :: l5 :: l6 :: some (.int x) :: t) (.int x :: ST) M h := r_iload mt_120 dL_isSound_128 rfl
theorem e120_130 : Rn X d 120 130 LS ST M h = Rn X d 120 131 LS (.int (zN 3) :: ST) M h := r_iconst mt_120 dL_isSound_130 c_ic3
theorem e120_131 : Rn X d 120 131 LS (.int y :: .int x :: ST) M h = q_eq X x y d 120 134 138 LS ST M h := s_icne mt_120 dL_isSound_131 rfl
theorem e120_134 : Rn X d 120 134 LS ST M h = Rn X d 120 135 LS (.int (zN 1) :: ST) M h := r_iconst mt_120 dL_isSound_134 c_ic1
theorem e120_135 : Rn X d 120 135 LS ST M h = Rn X d 120 139 LS ST M h := r_goto mt_120 dL_isSound_135 rfl
theorem e120_138 : Rn X d 120 138 LS ST M h = Rn X d 120 139 LS (.int (zN 0) :: ST) M h := r_iconst mt_120 dL_isSound_138 c_ic0
theorem e120_139 : Rn X d 120 139 LS (.int y :: .int x :: ST) M h = Rn X d 120 140 LS (.int (x + y) :: ST) M h := r_iadd mt_120 dL_isSound_139
theorem e120_140 (ho : j_one l3 = true) : Rn X d 120 140 (l0 :: l1 :: l2 :: l3 :: l4 :: t) (.int x :: ST) M h = Rn X d 120 142 (l0 :: l1 :: l2 :: l3 :: some (.int x) :: t) ST M h := r_istore mt_120 dL_isSound_140 (by show 4 < _; simp only [List.length_cons]; omega) ho rfl
theorem e120_142 : Rn X d 120 142 (some (.ref a) :: t) ST M h = Rn X d 120 143 (some (.ref a) :: t) (.ref a :: ST) M h := r_aload_n mt_120 dL_isSound_142 rfl
theorem e120_143 : Rn X d 120 143 (l0 :: l1 :: l2 :: l3 :: l4 :: l5 :: some (.int x) :: t) ST M h = Rn X d 120 145 (l0 :: l1 :: l2 :: l3 :: l4 :: l5 :: some (.int x) :: t) (.int x :: ST) M h := r_iload mt_120 dL_isSound_143 rfl
theorem e120_145 : Rn X d 120 145 LS ST M h = Rn X d 120 146 LS (.int (zN 5) :: ST) M h := r_iconst mt_120 dL_isSound_145 c_ic5
theorem e120_146 (hcs : Nat.ble (j_cs ST) 8 = true) : Rn X (d + 1) 120 146 LS (.int y :: .int x :: .ref a :: ST) M h = q_k X (Rn X d 109 0 [some (.ref a), some (.int x), some (.int y), none] [] M (j_h0 h)) h (d + 1) 120 149 LS ST := s_callS (Or.inr (Or.inl rfl)) mt_120 dL_isSound_146 cl_8_84 mt_109 rfl (Nat.le_add_left _ _) rfl rfl rfl rfl hcs
theorem e120_149 : Rn X d 120 149 (some (.ref a) :: t) ST M h = Rn X d 120 150 (some (.ref a) :: t) (.ref a :: ST) M h := r_aload_n mt_120 dL_isSound_149 rfl
theorem e120_150 : Rn X d 120 150 LS ST M h = Rn X d 120 151 LS (.int (zN 0) :: ST) M h := r_iconst mt_120 dL_isSound_150 c_ic0
theorem e120_151 : Rn X d 120 151 LS ST M h = Rn X d 120 152 LS (.int (zN 0) :: ST) M h := r_iconst mt_120 dL_isSound_151 c_ic0
theorem e120_152 (hcs : Nat.ble (j_cs ST) 8 = true) : Rn X (d + 1) 120 152 LS (.int y :: .int x :: .ref a :: ST) M h = q_k X (Rn X d 110 0 [some (.ref a), some (.int x), some (.int y), none] [] M (j_h0 h)) h (d + 1) 120 155 LS ST := s_callS (Or.inr (Or.inl rfl)) mt_120 dL_isSound_152 cl_8_78 mt_110 rfl (Nat.le_add_left _ _) rfl rfl rfl rfl hcs
theorem e120_155 : Rn X d 120 155 (l0 :: l1 :: l2 :: l3 :: l4 :: l5 :: some (.int x) :: t) ST M h = Rn X d 120 157 (l0 :: l1 :: l2 :: l3 :: l4 :: l5 :: some (.int x) :: t) (.int x :: ST) M h := r_iload mt_120 dL_isSound_155 rfl
theorem e120_157 : Rn X d 120 157 LS (.int y :: .int x :: ST) M h = q_le X x y d 120 164 160 LS ST M h := s_icle mt_120 dL_isSound_157 rfl
theorem e120_160 : Rn X d 120 160 LS ST M h = Rn X d 120 161 LS (.int (zN 1) :: ST) M h := r_iconst mt_120 dL_isSound_160 c_ic1
theorem e120_161 : Rn X d 120 161 LS ST M h = Rn X d 120 165 LS ST M h := r_goto mt_120 dL_isSound_161 rfl
theorem e120_164 : Rn X d 120 164 LS ST M h = Rn X d 120 165 LS (.int (zN 0) :: ST) M h := r_iconst mt_120 dL_isSound_164 c_ic0
theorem e120_165 : Rn X d 120 165 (some (.ref a) :: t) ST M h = Rn X d 120 166 (some (.ref a) :: t) (.ref a :: ST) M h := r_aload_n mt_120 dL_isSound_165 rfl
theorem e120_166 : Rn X d 120 166 LS ST M h = Rn X d 120 167 LS (.int (zN 1) :: ST) M h := r_iconst mt_120 dL_isSound_166 c_ic1
theorem e120_167 : Rn X d 120 167 LS ST M h = Rn X d 120 168 LS (.int (zN 0) :: ST) M h := r_iconst mt_120 dL_isSound_167 c_ic0
theorem e120_168 (hcs : Nat.ble (j_cs ST) 8 = true) : Rn X (d + 1) 120 168 LS (.int y :: .int x :: .ref a :: ST) M h = q_k X (Rn X d 110 0 [some (.ref a), some (.int x), some (.int y), none] [] M (j_h0 h)) h (d + 1) 120 171 LS ST := s_callS (Or.inr (Or.inl rfl)) mt_120 dL_isSound_168 cl_8_78 mt_110 rfl (Nat.le_add_left _ _) rfl rfl rfl rfl hcs
theorem e120_171 : Rn X d 120 171 (l0 :: l1 :: l2 :: l3 :: l4 :: l5 :: some (.int x) :: t) ST M h = Rn X d 120 173 (l0 :: l1 :: l2 :: l3 :: l4 :: l5 :: some (.int x) :: t) (.int x :: ST) M h := r_iload mt_120 dL_isSound_171 rfl
theorem e120_173 : Rn X d 120 173 LS (.int y :: .int x :: ST) M h = q_le X x y d 120 180 176 LS ST M h := s_icle mt_120 dL_isSound_173 rfl
theorem e120_176 : Rn X d 120 176 LS ST M h = Rn X d 120 177 LS (.int (zN 2) :: ST) M h := r_iconst mt_120 dL_isSound_176 c_ic2
theorem e120_177 : Rn X d 120 177 LS ST M h = Rn X d 120 181 LS ST M h := r_goto mt_120 dL_isSound_177 rfl
theorem e120_180 : Rn X d 120 180 LS ST M h = Rn X d 120 181 LS (.int (zN 0) :: ST) M h := r_iconst mt_120 dL_isSound_180 c_ic0
theorem e120_181 : Rn X d 120 181 LS (.int y :: .int x :: ST) M h = Rn X d 120 182 LS (.int (x + y) :: ST) M h := r_iadd mt_120 dL_isSound_181
theorem e120_182 : Rn X d 120 182 LS (.int y :: .int x :: ST) M h = q_eq X x y d 120 185 230 LS ST M h := s_icne mt_120 dL_isSound_182 rfl
theorem e120_185 : Rn X d 120 185 (some (.ref a) :: t) ST M h = Rn X d 120 186 (some (.ref a) :: t) (.ref a :: ST) M h := r_aload_n mt_120 dL_isSound_185 rfl
theorem e120_186 : Rn X d 120 186 (l0 :: l1 :: l2 :: l3 :: l4 :: l5 :: some (.int x) :: t) ST M h = Rn X d 120 188 (l0 :: l1 :: l2 :: l3 :: l4 :: l5 :: some (.int x) :: t) (.int x :: ST) M h := r_iload mt_120 dL_isSound_186 rfl
theorem e120_188 : Rn X d 120 188 LS ST M h = Rn X d 120 189 LS (.int (zN 0) :: ST) M h := r_iconst mt_120 dL_isSound_188 c_ic0
theorem e120_189 (hcs : Nat.ble (j_cs ST) 8 = true) : Rn X (d + 1) 120 189 LS (.int y :: .int x :: .ref a :: ST) M h = q_k X (Rn X d 109 0 [some (.ref a), some (.int x), some (.int y), none] [] M (j_h0 h)) h (d + 1) 120 192 LS ST := s_callS (Or.inr (Or.inl rfl)) mt_120 dL_isSound_189 cl_8_84 mt_109 rfl (Nat.le_add_left _ _) rfl rfl rfl rfl hcs
theorem e120_192 : Rn X d 120 192 LS ST M h = Rn X d 120 193 LS (.int (zN 2) :: ST) M h := r_iconst mt_120 dL_isSound_192 c_ic2
theorem e120_193 : Rn X d 120 193 LS (.int y :: .int x :: ST) M h = q_le X y x d 120 209 196 LS ST M h := s_icge mt_120 dL_isSound_193 rfl
theorem e120_196 : Rn X d 120 196 (some (.ref a) :: t) ST M h = Rn X d 120 197 (some (.ref a) :: t) (.ref a :: ST) M h := r_aload_n mt_120 dL_isSound_196 rfl
theorem e120_197 : Rn X d 120 197 (l0 :: l1 :: l2 :: l3 :: l4 :: l5 :: some (.int x) :: t) ST M h = Rn X d 120 199 (l0 :: l1 :: l2 :: l3 :: l4 :: l5 :: some (.int x) :: t) (.int x :: ST) M h := r_iload mt_120 dL_isSound_197 rfl
theorem e120_199 : Rn X d 120 199 LS ST M h = Rn X d 120 200 LS (.int (zN 2) :: ST) M h := r_iconst mt_120 dL_isSound_199 c_ic2
theorem e120_200 (hcs : Nat.ble (j_cs ST) 8 = true) : Rn X (d + 1) 120 200 LS (.int y :: .int x :: .ref a :: ST) M h = q_k X (Rn X d 109 0 [some (.ref a), some (.int x), some (.int y), none] [] M (j_h0 h)) h (d + 1) 120 203 LS ST := s_callS (Or.inr (Or.inl rfl)) mt_120 dL_isSound_200 cl_8_84 mt_109 rfl (Nat.le_add_left _ _) rfl rfl rfl rfl hcs
theorem e120_203 : Rn X d 120 203 LS (.int x :: ST) M h = q_eq X x (zN 0) d 120 206 230 LS ST M h := s_ifne mt_120 dL_isSound_203 rfl
theorem e120_206 : Rn X d 120 206 LS ST M h = Rn X d 120 226 LS ST M h := r_goto mt_120 dL_isSound_206 rfl
theorem e120_209 : Rn X d 120 209 (some (.ref a) :: t) ST M h = Rn X d 120 210 (some (.ref a) :: t) (.ref a :: ST) M h := r_aload_n mt_120 dL_isSound_209 rfl
theorem e120_210 : Rn X d 120 210 (l0 :: l1 :: l2 :: l3 :: l4 :: l5 :: some (.int x) :: t) ST M h = Rn X d 120 212 (l0 :: l1 :: l2 :: l3 :: l4 :: l5 :: some (.int x) :: t) (.int x :: ST) M h := r_iload mt_120 dL_isSound_210 rfl
theorem e120_212 : Rn X d 120 212 LS ST M h = Rn X d 120 213 LS (.int (zN 1) :: ST) M h := r_iconst mt_120 dL_isSound_212 c_ic1
theorem e120_213 (hcs : Nat.ble (j_cs ST) 8 = true) : Rn X (d + 1) 120 213 LS (.int y :: .int x :: .ref a :: ST) M h = q_k X (Rn X d 109 0 [some (.ref a), some (.int x), some (.int y), none] [] M (j_h0 h)) h (d + 1) 120 216 LS ST := s_callS (Or.inr (Or.inl rfl)) mt_120 dL_isSound_213 cl_8_84 mt_109 rfl (Nat.le_add_left _ _) rfl rfl rfl rfl hcs
theorem e120_216 : Rn X d 120 216 (some (.ref a) :: t) ST M h = Rn X d 120 217 (some (.ref a) :: t) (.ref a :: ST) M h := r_aload_n mt_120 dL_isSound_216 rfl
theorem e120_217 : Rn X d 120 217 (l0 :: l1 :: l2 :: l3 :: l4 :: l5 :: some (.int x) :: t) ST M h = Rn X d 120 219 (l0 :: l1 :: l2 :: l3 :: l4 :: l5 :: some (.int x) :: t) (.int x :: ST) M h := r_iload mt_120 dL_isSound_217 rfl
theorem e120_219 : Rn X d 120 219 LS ST M h = Rn X d 120 220 LS (.int (zN 2) :: ST) M h := r_iconst mt_120 dL_isSound_219 c_ic2
theorem e120_220 (hcs : Nat.ble (j_cs ST) 8 = true) : Rn X (d + 1) 120 220 LS (.int y :: .int x :: .ref a :: ST) M h = q_k X (Rn X d 109 0 [some (.ref a), some (.int x), some (.int y), none] [] M (j_h0 h)) h (d + 1) 120 223 LS ST := s_callS (Or.inr (Or.inl rfl)) mt_120 dL_isSound_220 cl_8_84 mt_109 rfl (Nat.le_add_left _ _) rfl rfl rfl rfl hcs
theorem e120_223 : Rn X d 120 223 LS (.int y :: .int x :: ST) M h = q_eq X x y d 120 230 226 LS ST M h := s_iceq mt_120 dL_isSound_223 rfl
theorem e120_226 : Rn X d 120 226 LS ST M h = Rn X d 120 227 LS (.int (zN 1) :: ST) M h := r_iconst mt_120 dL_isSound_226 c_ic1
theorem e120_227 : Rn X d 120 227 LS ST M h = Rn X d 120 231 LS ST M h := r_goto mt_120 dL_isSound_227 rfl
theorem e120_230 : Rn X d 120 230 LS ST M h = Rn X d 120 231 LS (.int (zN 0) :: ST) M h := r_iconst mt_120 dL_isSound_230 c_ic0
theorem e120_231 (ho : j_one l4 = true) : Rn X d 120 231 (l0 :: l1 :: l2 :: l3 :: l4 :: l5 :: t) (.int x :: ST) M h = Rn X d 120 233 (l0 :: l1 :: l2 :: l3 :: l4 :: some (.int x) :: t) ST M h := r_istore mt_120 dL_isSound_231 (by show 5 < _; simp only [List.length_cons]; omega) ho rfl
theorem e120_233 (ho : j_one l5 = true) : Rn X d 120 233 (l0 :: l1 :: l2 :: l3 :: l4 :: l5 :: some (.int x) :: t) ST M h = Rn X d 120 236 (l0 :: l1 :: l2 :: l3 :: l4 :: l5 :: some (.int (x + (zN 1))) :: t) ST M h := r_iinc mt_120 dL_isSound_233 rfl (by simp only [List.length_cons]; omega) ho c_ic1 rfl
theorem e120_236 : Rn X d 120 236 LS ST M h = Rn X d 120 94 LS ST M h := r_goto mt_120 dL_isSound_236 rfl
theorem e120_239 : Rn X d 120 239 (l0 :: l1 :: l2 :: l3 :: l4 :: some (.int x) :: t) ST M h = Rn X d 120 241 (l0 :: l1 :: l2 :: l3 :: l4 :: some (.int x) :: t) (.int x :: ST) M h := r_iload mt_120 dL_isSound_239 rfl
theorem e120_241 : Rn X d 120 241 LS (.int x :: ST) M h = q_eq X x (zN 0) d 120 267 244 LS ST M h := s_ifeq mt_120 dL_isSound_241 rfl
theorem e120_244 : Rn X d 120 244 (l0 :: l1 :: l2 :: some (.int x) :: t) ST M h = Rn X d 120 245 (l0 :: l1 :: l2 :: some (.int x) :: t) (.int x :: ST) M h := r_iload_n mt_120 dL_isSound_244 rfl
theorem e120_245 : Rn X d 120 245 (some (.ref a) :: t) ST M h = Rn X d 120 246 (some (.ref a) :: t) (.ref a :: ST) M h := r_aload_n mt_120 dL_isSound_245 rfl
theorem e120_246 : Rn X d 120 246 LS ST M h = Rn X d 120 247 LS (.int (zN 4) :: ST) M h := r_iconst mt_120 dL_isSound_246 c_ic4
theorem e120_247 (hcs : Nat.ble (j_cs ST) 8 = true) : Rn X (d + 1) 120 247 LS (.int x :: .ref a :: ST) M h = q_k X (Rn X d 112 0 [some (.ref a), some (.int x), none] [] M (j_h0 h)) h (d + 1) 120 250 LS ST := s_callS (Or.inr (Or.inl rfl)) mt_120 dL_isSound_247 cl_8_73 mt_112 rfl (Nat.le_add_left _ _) rfl rfl rfl rfl hcs
theorem e120_250 : Rn X d 120 250 LS (.int y :: .int x :: ST) M h = q_eq X x y d 120 253 267 LS ST M h := s_icne mt_120 dL_isSound_250 rfl
theorem e120_253 : Rn X d 120 253 (l0 :: l1 :: l2 :: l3 :: some (.int x) :: t) ST M h = Rn X d 120 255 (l0 :: l1 :: l2 :: l3 :: some (.int x) :: t) (.int x :: ST) M h := r_iload mt_120 dL_isSound_253 rfl
theorem e120_255 : Rn X d 120 255 (some (.ref a) :: t) ST M h = Rn X d 120 256 (some (.ref a) :: t) (.ref a :: ST) M h := r_aload_n mt_120 dL_isSound_255 rfl
theorem e120_256 : Rn X d 120 256 LS ST M h = Rn X d 120 257 LS (.int (zN 5) :: ST) M h := r_iconst mt_120 dL_isSound_256 c_ic5
theorem e120_257 (hcs : Nat.ble (j_cs ST) 8 = true) : Rn X (d + 1) 120 257 LS (.int x :: .ref a :: ST) M h = q_k X (Rn X d 112 0 [some (.ref a), some (.int x), none] [] M (j_h0 h)) h (d + 1) 120 260 LS ST := s_callS (Or.inr (Or.inl rfl)) mt_120 dL_isSound_257 cl_8_73 mt_112 rfl (Nat.le_add_left _ _) rfl rfl rfl rfl hcs
theorem e120_260 : Rn X d 120 260 LS (.int y :: .int x :: ST) M h = q_eq X x y d 120 263 267 LS ST M h := s_icne mt_120 dL_isSound_260 rfl
theorem e120_263 : Rn X d 120 263 LS ST M h = Rn X d 120 264 LS (.int (zN 1) :: ST) M h := r_iconst mt_120 dL_isSound_263 c_ic1
theorem e120_264 : Rn X d 120 264 LS ST M h = Rn X d 120 268 LS ST M h := r_goto mt_120 dL_isSound_264 rfl
theorem e120_267 : Rn X d 120 267 LS ST M h = Rn X d 120 268 LS (.int (zN 0) :: ST) M h := r_iconst mt_120 dL_isSound_267 c_ic0
theorem e120_268 (ho : j_one l4 = true) : Rn X d 120 268 (l0 :: l1 :: l2 :: l3 :: l4 :: l5 :: t) (.int x :: ST) M h = Rn X d 120 270 (l0 :: l1 :: l2 :: l3 :: l4 :: some (.int x) :: t) ST M h := r_istore mt_120 dL_isSound_268 (by show 5 < _; simp only [List.length_cons]; omega) ho rfl
theorem e120_270 : Rn X d 120 270 LS ST M h = Rn X d 120 271 LS (.int (zN 0) :: ST) M h := r_iconst mt_120 dL_isSound_270 c_ic0
theorem e120_271 (ho : j_one l5 = true) : Rn X d 120 271 (l0 :: l1 :: l2 :: l3 :: l4 :: l5 :: l6 :: t) (.int x :: ST) M h = Rn X d 120 273 (l0 :: l1 :: l2 :: l3 :: l4 :: l5 :: some (.int x) :: t) ST M h := r_istore mt_120 dL_isSound_271 (by show 6 < _; simp only [List.length_cons]; omega) ho rfl
theorem e120_273 : Rn X d 120 273 (l0 :: l1 :: l2 :: l3 :: l4 :: l5 :: some (.int x) :: t) ST M h = Rn X d 120 275 (l0 :: l1 :: l2 :: l3 :: l4 :: l5 :: some (.int x) :: t) (.int x :: ST) M h := r_iload mt_120 dL_isSound_273 rfl
theorem e120_275 : Rn X d 120 275 LS ST M h = Rn X d 120 276 LS (.int (zN 2) :: ST) M h := r_iconst mt_120 dL_isSound_275 c_ic2
theorem e120_276 : Rn X d 120 276 LS (.int y :: .int x :: ST) M h = q_le X y x d 120 560 279 LS ST M h := s_icge mt_120 dL_isSound_276 rfl
theorem e120_279 : Rn X d 120 279 (l0 :: l1 :: l2 :: l3 :: l4 :: some (.int x) :: t) ST M h = Rn X d 120 281 (l0 :: l1 :: l2 :: l3 :: l4 :: some (.int x) :: t) (.int x :: ST) M h := r_iload mt_120 dL_isSound_279 rfl
theorem e120_281 : Rn X d 120 281 LS (.int x :: ST) M h = q_eq X x (zN 0) d 120 560 284 LS ST M h := s_ifeq mt_120 dL_isSound_281 rfl
theorem e120_284 : Rn X d 120 284 LS ST M h = Rn X d 120 285 LS (.int (zN 0) :: ST) M h := r_iconst mt_120 dL_isSound_284 c_ic0
theorem e120_285 (ho : j_one l6 = true) : Rn X d 120 285 (l0 :: l1 :: l2 :: l3 :: l4 :: l5 :: l6 :: l7 :: t) (.int x :: ST) M h = Rn X d 120 287 (l0 :: l1 :: l2 :: l3 :: l4 :: l5 :: l6 :: some (.int x) :: t) ST M h := r_istore mt_120 dL_isSound_285 (by show 7 < _; simp only [List.length_cons]; omega) ho rfl
theorem e120_287 : Rn X d 120 287 (some (.ref a) :: t) ST M h = Rn X d 120 288 (some (.ref a) :: t) (.ref a :: ST) M h := r_aload_n mt_120 dL_isSound_287 rfl
theorem e120_288 : Rn X d 120 288 (l0 :: l1 :: l2 :: l3 :: l4 :: l5 :: some (.int x) :: t) ST M h = Rn X d 120 290 (l0 :: l1 :: l2 :: l3 :: l4 :: l5 :: some (.int x) :: t) (.int x :: ST) M h := r_iload mt_120 dL_isSound_288 rfl
theorem e120_290 : Rn X d 120 290 LS ST M h = Rn X d 120 291 LS (.int (zN 0) :: ST) M h := r_iconst mt_120 dL_isSound_290 c_ic0
theorem e120_291 (hcs : Nat.ble (j_cs ST) 8 = true) : Rn X (d + 1) 120 291 LS (.int y :: .int x :: .ref a :: ST) M h = q_k X (Rn X d 110 0 [some (.ref a), some (.int x), some (.int y), none] [] M (j_h0 h)) h (d + 1) 120 294 LS ST := s_callS (Or.inr (Or.inl rfl)) mt_120 dL_isSound_291 cl_8_78 mt_110 rfl (Nat.le_add_left _ _) rfl rfl rfl rfl hcs
theorem e120_294 (ho : j_one l7 = true) : Rn X d 120 294 (l0 :: l1 :: l2 :: l3 :: l4 :: l5 :: l6 :: l7 :: l8 :: t) (.int x :: ST) M h = Rn X d 120 296 (l0 :: l1 :: l2 :: l3 :: l4 :: l5 :: l6 :: l7 :: some (.int x) :: t) ST M h := r_istore mt_120 dL_isSound_294 (by show 8 < _; simp only [List.length_cons]; omega) ho rfl
theorem e120_296 : Rn X d 120 296 (some (.ref a) :: t) ST M h = Rn X d 120 297 (some (.ref a) :: t) (.ref a :: ST) M h := r_aload_n mt_120 dL_isSound_296 rfl
theorem e120_297 : Rn X d 120 297 (l0 :: l1 :: l2 :: l3 :: l4 :: l5 :: some (.int x) :: t) ST M h = Rn X d 120 299 (l0 :: l1 :: l2 :: l3 :: l4 :: l5 :: some (.int x) :: t) (.int x :: ST) M h := r_iload mt_120 dL_isSound_297 rfl
theorem e120_299 (hcs : Nat.ble (j_cs ST) 8 = true) : Rn X (d + 1) 120 299 LS (.int x :: .ref a :: ST) M h = q_k X (Rn X d 114 0 [some (.ref a), some (.int x), none] [] M (j_h0 h)) h (d + 1) 120 302 LS ST := s_callS (Or.inr (Or.inl rfl)) mt_120 dL_isSound_299 cl_8_86 mt_114 rfl (Nat.le_add_left _ _) rfl rfl rfl rfl hcs
theorem e120_302 (ho : j_one l8 = true) : Rn X d 120 302 (l0 :: l1 :: l2 :: l3 :: l4 :: l5 :: l6 :: l7 :: l8 :: l9 :: t) (.int x :: ST) M h = Rn X d 120 304 (l0 :: l1 :: l2 :: l3 :: l4 :: l5 :: l6 :: l7 :: l8 :: some (.int x) :: t) ST M h := r_istore mt_120 dL_isSound_302 (by show 9 < _; simp only [List.length_cons]; omega) ho rfl
theorem e120_304 : Rn X d 120 304 LS ST M h = Rn X d 120 305 LS (.int (zN 0) :: ST) M h := r_iconst mt_120 dL_isSound_304 c_ic0
theorem e120_305 (ho : j_one l9 = true) : Rn X d 120 305 (l0 :: l1 :: l2 :: l3 :: l4 :: l5 :: l6 :: l7 :: l8 :: l9 :: l10 :: t) (.int x :: ST) M h = Rn X d 120 307 (l0 :: l1 :: l2 :: l3 :: l4 :: l5 :: l6 :: l7 :: l8 :: l9 :: some (.int x) :: t) ST M h := r_istore mt_120 dL_isSound_305 (by show 10 < _; simp only [List.length_cons]; omega) ho rfl
theorem e120_307 : Rn X d 120 307 (l0 :: l1 :: l2 :: l3 :: l4 :: l5 :: l6 :: l7 :: l8 :: l9 :: some (.int x) :: t) ST M h = Rn X d 120 309 (l0 :: l1 :: l2 :: l3 :: l4 :: l5 :: l6 :: l7 :: l8 :: l9 :: some (.int x) :: t) (.int x :: ST) M h := r_iload mt_120 dL_isSound_307 rfl
theorem e120_309 : Rn X d 120 309 LS ST M h = Rn X d 120 311 LS (.int (zN 8) :: ST) M h := r_bipush mt_120 dL_isSound_309 c_bi8
theorem e120_311 : Rn X d 120 311 LS (.int y :: .int x :: ST) M h = q_le X y x d 120 404 314 LS ST M h := s_icge mt_120 dL_isSound_311 rfl
theorem e120_314 : Rn X d 120 314 (l0 :: l1 :: l2 :: l3 :: l4 :: some (.int x) :: t) ST M h = Rn X d 120 316 (l0 :: l1 :: l2 :: l3 :: l4 :: some (.int x) :: t) (.int x :: ST) M h := r_iload mt_120 dL_isSound_314 rfl
theorem e120_316 : Rn X d 120 316 LS (.int x :: ST) M h = q_eq X x (zN 0) d 120 404 319 LS ST M h := s_ifeq mt_120 dL_isSound_316 rfl
theorem e120_319 : Rn X d 120 319 (some (.ref a) :: t) ST M h = Rn X d 120 320 (some (.ref a) :: t) (.ref a :: ST) M h := r_aload_n mt_120 dL_isSound_319 rfl
theorem e120_320 : Rn X d 120 320 (l0 :: l1 :: l2 :: l3 :: l4 :: l5 :: l6 :: l7 :: some (.int x) :: t) ST M h = Rn X d 120 322 (l0 :: l1 :: l2 :: l3 :: l4 :: l5 :: l6 :: l7 :: some (.int x) :: t) (.int x :: ST) M h := r_iload mt_120 dL_isSound_320 rfl
theorem e120_322 : Rn X d 120 322 (l0 :: l1 :: l2 :: l3 :: l4 :: l5 :: l6 :: l7 :: l8 :: l9 :: some (.int x) :: t) ST M h = Rn X d 120 324 (l0 :: l1 :: l2 :: l3 :: l4 :: l5 :: l6 :: l7 :: l8 :: l9 :: some (.int x) :: t) (.int x :: ST) M h := r_iload mt_120 dL_isSound_322 rfl
theorem e120_324 (hcs : Nat.ble (j_cs ST) 8 = true) : Rn X (d + 1) 120 324 LS (.int y :: .int x :: .ref a :: ST) M h = q_k X (Rn X d 115 0 [some (.ref a), some (.int x), some (.int y), none] [] M (j_h0 h)) h (d + 1) 120 327 LS ST := s_callS (Or.inr (Or.inl rfl)) mt_120 dL_isSound_324 cl_8_88 mt_115 rfl (Nat.le_add_left _ _) rfl rfl rfl rfl hcs
theorem e120_327 (ho : j_one l10 = true) : Rn X d 120 327 (l0 :: l1 :: l2 :: l3 :: l4 :: l5 :: l6 :: l7 :: l8 :: l9 :: l10 :: l11 :: t) (.int x :: ST) M h = Rn X d 120 329 (l0 :: l1 :: l2 :: l3 :: l4 :: l5 :: l6 :: l7 :: l8 :: l9 :: l10 :: some (.int x) :: t) ST M h := r_istore mt_120 dL_isSound_327 (by show 11 < _; simp only [List.length_cons]; omega) ho rfl
theorem e120_329 : Rn X d 120 329 (l0 :: l1 :: l2 :: l3 :: l4 :: l5 :: l6 :: some (.int x) :: t) ST M h = Rn X d 120 331 (l0 :: l1 :: l2 :: l3 :: l4 :: l5 :: l6 :: some (.int x) :: t) (.int x :: ST) M h := r_iload mt_120 dL_isSound_329 rfl
theorem e120_331 : Rn X d 120 331 (some (.ref a) :: t) ST M h = Rn X d 120 332 (some (.ref a) :: t) (.ref a :: ST) M h := r_aload_n mt_120 dL_isSound_331 rfl
theorem e120_332 : Rn X d 120 332 (l0 :: l1 :: l2 :: l3 :: l4 :: l5 :: some (.int x) :: t) ST M h = Rn X d 120 334 (l0 :: l1 :: l2 :: l3 :: l4 :: l5 :: some (.int x) :: t) (.int x :: ST) M h := r_iload mt_120 dL_isSound_332 rfl
theorem e120_334 : Rn X d 120 334 (l0 :: l1 :: l2 :: l3 :: l4 :: l5 :: l6 :: l7 :: l8 :: l9 :: some (.int x) :: t) ST M h = Rn X d 120 336 (l0 :: l1 :: l2 :: l3 :: l4 :: l5 :: l6 :: l7 :: l8 :: l9 :: some (.int x) :: t) (.int x :: ST) M h := r_iload mt_120 dL_isSound_334 rfl
theorem e120_336 (hcs : Nat.ble (j_cs ST) 8 = true) : Rn X (d + 1) 120 336 LS (.int y :: .int x :: .ref a :: ST) M h = q_k X (Rn X d 111 0 [some (.ref a), some (.int x), some (.int y), none] [] M (j_h0 h)) h (d + 1) 120 339 LS ST := s_callS (Or.inr (Or.inl rfl)) mt_120 dL_isSound_336 cl_8_90 mt_111 rfl (Nat.le_add_left _ _) rfl rfl rfl rfl hcs
theorem e120_339 : Rn X d 120 339 LS (.int y :: .int x :: ST) M h = Rn X d 120 340 LS (.int (x + y) :: ST) M h := r_iadd mt_120 dL_isSound_339
theorem e120_340 (ho : j_one l6 = true) : Rn X d 120 340 (l0 :: l1 :: l2 :: l3 :: l4 :: l5 :: l6 :: l7 :: t) (.int x :: ST) M h = Rn X d 120 342 (l0 :: l1 :: l2 :: l3 :: l4 :: l5 :: l6 :: some (.int x) :: t) ST M h := r_istore mt_120 dL_isSound_340 (by show 7 < _; simp only [List.length_cons]; omega) ho rfl
theorem e120_342 : Rn X d 120 342 (some (.ref a) :: t) ST M h = Rn X d 120 343 (some (.ref a) :: t) (.ref a :: ST) M h := r_aload_n mt_120 dL_isSound_342 rfl
theorem e120_343 : Rn X d 120 343 (l0 :: l1 :: l2 :: l3 :: l4 :: l5 :: some (.int x) :: t) ST M h = Rn X d 120 345 (l0 :: l1 :: l2 :: l3 :: l4 :: l5 :: some (.int x) :: t) (.int x :: ST) M h := r_iload mt_120 dL_isSound_343 rfl
theorem e120_345 : Rn X d 120 345 (l0 :: l1 :: l2 :: l3 :: l4 :: l5 :: l6 :: l7 :: l8 :: l9 :: some (.int x) :: t) ST M h = Rn X d 120 347 (l0 :: l1 :: l2 :: l3 :: l4 :: l5 :: l6 :: l7 :: l8 :: l9 :: some (.int x) :: t) (.int x :: ST) M h := r_iload mt_120 dL_isSound_345 rfl
theorem e120_347 (hcs : Nat.ble (j_cs ST) 8 = true) : Rn X (d + 1) 120 347 LS (.int y :: .int x :: .ref a :: ST) M h = q_k X (Rn X d 111 0 [some (.ref a), some (.int x), some (.int y), none] [] M (j_h0 h)) h (d + 1) 120 350 LS ST := s_callS (Or.inr (Or.inl rfl)) mt_120 dL_isSound_347 cl_8_90 mt_111 rfl (Nat.le_add_left _ _) rfl rfl rfl rfl hcs
theorem e120_350 : Rn X d 120 350 LS (.int x :: ST) M h = q_lt X x (zN 0) d 120 395 353 LS ST M h := s_iflt mt_120 dL_isSound_350 rfl
theorem e120_353 : Rn X d 120 353 (some (.ref a) :: t) ST M h = Rn X d 120 354 (some (.ref a) :: t) (.ref a :: ST) M h := r_aload_n mt_120 dL_isSound_353 rfl
theorem e120_354 : Rn X d 120 354 (l0 :: l1 :: l2 :: l3 :: l4 :: l5 :: some (.int x) :: t) ST M h = Rn X d 120 356 (l0 :: l1 :: l2 :: l3 :: l4 :: l5 :: some (.int x) :: t) (.int x :: ST) M h := r_iload mt_120 dL_isSound_354 rfl
theorem e120_356 : Rn X d 120 356 (l0 :: l1 :: l2 :: l3 :: l4 :: l5 :: l6 :: l7 :: l8 :: l9 :: some (.int x) :: t) ST M h = Rn X d 120 358 (l0 :: l1 :: l2 :: l3 :: l4 :: l5 :: l6 :: l7 :: l8 :: l9 :: some (.int x) :: t) (.int x :: ST) M h := r_iload mt_120 dL_isSound_356 rfl
theorem e120_358 (hcs : Nat.ble (j_cs ST) 8 = true) : Rn X (d + 1) 120 358 LS (.int y :: .int x :: .ref a :: ST) M h = q_k X (Rn X d 111 0 [some (.ref a), some (.int x), some (.int y), none] [] M (j_h0 h)) h (d + 1) 120 361 LS ST := s_callS (Or.inr (Or.inl rfl)) mt_120 dL_isSound_358 cl_8_90 mt_111 rfl (Nat.le_add_left _ _) rfl rfl rfl rfl hcs
theorem e120_361 : Rn X d 120 361 LS ST M h = Rn X d 120 364 LS (.int (zN 999) :: ST) M h := r_sipush mt_120 dL_isSound_361 c_si999
theorem e120_364 : Rn X d 120 364 LS (.int y :: .int x :: ST) M h = q_lt X y x d 120 395 367 LS ST M h := s_icgt mt_120 dL_isSound_364 rfl
theorem e120_367 : Rn X d 120 367 (l0 :: l1 :: l2 :: l3 :: l4 :: l5 :: l6 :: l7 :: l8 :: l9 :: l10 :: some (.int x) :: t) ST M h = Rn X d 120 369 (l0 :: l1 :: l2 :: l3 :: l4 :: l5 :: l6 :: l7 :: l8 :: l9 :: l10 :: some (.int x) :: t) (.int x :: ST) M h := r_iload mt_120 dL_isSound_367 rfl
theorem e120_369 : Rn X d 120 369 (some (.ref a) :: t) ST M h = Rn X d 120 370 (some (.ref a) :: t) (.ref a :: ST) M h := r_aload_n mt_120 dL_isSound_369 rfl
theorem e120_370 : Rn X d 120 370 (l0 :: l1 :: l2 :: l3 :: l4 :: l5 :: some (.int x) :: t) ST M h = Rn X d 120 372 (l0 :: l1 :: l2 :: l3 :: l4 :: l5 :: some (.int x) :: t) (.int x :: ST) M h := r_iload mt_120 dL_isSound_370 rfl
theorem e120_372 : Rn X d 120 372 (l0 :: l1 :: l2 :: l3 :: l4 :: l5 :: l6 :: l7 :: l8 :: l9 :: some (.int x) :: t) ST M h = Rn X d 120 374 (l0 :: l1 :: l2 :: l3 :: l4 :: l5 :: l6 :: l7 :: l8 :: l9 :: some (.int x) :: t) (.int x :: ST) M h := r_iload mt_120 dL_isSound_372 rfl
theorem e120_374 (hcs : Nat.ble (j_cs ST) 8 = true) : Rn X (d + 1) 120 374 LS (.int y :: .int x :: .ref a :: ST) M h = q_k X (Rn X d 111 0 [some (.ref a), some (.int x), some (.int y), none] [] M (j_h0 h)) h (d + 1) 120 377 LS ST := s_callS (Or.inr (Or.inl rfl)) mt_120 dL_isSound_374 cl_8_90 mt_111 rfl (Nat.le_add_left _ _) rfl rfl rfl rfl hcs
theorem e120_377 : Rn X d 120 377 LS (.int y :: .int x :: ST) M h = q_eq X x y d 120 391 380 LS ST M h := s_iceq mt_120 dL_isSound_377 rfl
theorem e120_380 : Rn X d 120 380 (l0 :: l1 :: l2 :: l3 :: l4 :: l5 :: l6 :: l7 :: l8 :: l9 :: l10 :: some (.int x) :: t) ST M h = Rn X d 120 382 (l0 :: l1 :: l2 :: l3 :: l4 :: l5 :: l6 :: l7 :: l8 :: l9 :: l10 :: some (.int x) :: t) (.int x :: ST) M h := r_iload mt_120 dL_isSound_380 rfl
theorem e120_382 : Rn X d 120 382 LS ST M h = Rn X d 120 383 LS (.int (zM 0) :: ST) M h := r_iconst mt_120 dL_isSound_382 c_icm1
theorem e120_383 : Rn X d 120 383 LS (.int y :: .int x :: ST) M h = q_eq X x y d 120 386 395 LS ST M h := s_icne mt_120 dL_isSound_383 rfl
theorem e120_386 : Rn X d 120 386 (l0 :: l1 :: l2 :: l3 :: some (.int x) :: t) ST M h = Rn X d 120 388 (l0 :: l1 :: l2 :: l3 :: some (.int x) :: t) (.int x :: ST) M h := r_iload mt_120 dL_isSound_386 rfl
theorem e120_388 : Rn X d 120 388 LS (.int x :: ST) M h = q_le X x (zN 0) d 120 395 391 LS ST M h := s_ifle mt_120 dL_isSound_388 rfl
theorem e120_391 : Rn X d 120 391 LS ST M h = Rn X d 120 392 LS (.int (zN 1) :: ST) M h := r_iconst mt_120 dL_isSound_391 c_ic1
theorem e120_392 : Rn X d 120 392 LS ST M h = Rn X d 120 396 LS ST M h := r_goto mt_120 dL_isSound_392 rfl
theorem e120_395 : Rn X d 120 395 LS ST M h = Rn X d 120 396 LS (.int (zN 0) :: ST) M h := r_iconst mt_120 dL_isSound_395 c_ic0
theorem e120_396 (ho : j_one l4 = true) : Rn X d 120 396 (l0 :: l1 :: l2 :: l3 :: l4 :: l5 :: t) (.int x :: ST) M h = Rn X d 120 398 (l0 :: l1 :: l2 :: l3 :: l4 :: some (.int x) :: t) ST M h := r_istore mt_120 dL_isSound_396 (by show 5 < _; simp only [List.length_cons]; omega) ho rfl
theorem e120_398 (ho : j_one l9 = true) : Rn X d 120 398 (l0 :: l1 :: l2 :: l3 :: l4 :: l5 :: l6 :: l7 :: l8 :: l9 :: some (.int x) :: t) ST M h = Rn X d 120 401 (l0 :: l1 :: l2 :: l3 :: l4 :: l5 :: l6 :: l7 :: l8 :: l9 :: some (.int (x + (zN 1))) :: t) ST M h := r_iinc mt_120 dL_isSound_398 rfl (by simp only [List.length_cons]; omega) ho c_ic1 rfl
theorem e120_401 : Rn X d 120 401 LS ST M h = Rn X d 120 307 LS ST M h := r_goto mt_120 dL_isSound_401 rfl
theorem e120_404 : Rn X d 120 404 (l0 :: l1 :: l2 :: l3 :: l4 :: some (.int x) :: t) ST M h = Rn X d 120 406 (l0 :: l1 :: l2 :: l3 :: l4 :: some (.int x) :: t) (.int x :: ST) M h := r_iload mt_120 dL_isSound_404 rfl
theorem e120_406 : Rn X d 120 406 LS (.int x :: ST) M h = q_eq X x (zN 0) d 120 496 409 LS ST M h := s_ifeq mt_120 dL_isSound_406 rfl
theorem e120_409 : Rn X d 120 409 (l0 :: l1 :: l2 :: l3 :: l4 :: l5 :: l6 :: some (.int x) :: t) ST M h = Rn X d 120 411 (l0 :: l1 :: l2 :: l3 :: l4 :: l5 :: l6 :: some (.int x) :: t) (.int x :: ST) M h := r_iload mt_120 dL_isSound_409 rfl
theorem e120_411 : Rn X d 120 411 (some (.ref a) :: t) ST M h = Rn X d 120 412 (some (.ref a) :: t) (.ref a :: ST) M h := r_aload_n mt_120 dL_isSound_411 rfl
theorem e120_412 : Rn X d 120 412 (l0 :: l1 :: l2 :: l3 :: l4 :: l5 :: some (.int x) :: t) ST M h = Rn X d 120 414 (l0 :: l1 :: l2 :: l3 :: l4 :: l5 :: some (.int x) :: t) (.int x :: ST) M h := r_iload mt_120 dL_isSound_412 rfl
theorem e120_414 : Rn X d 120 414 LS ST M h = Rn X d 120 415 LS (.int (zN 3) :: ST) M h := r_iconst mt_120 dL_isSound_414 c_ic3
theorem e120_415 (hcs : Nat.ble (j_cs ST) 8 = true) : Rn X (d + 1) 120 415 LS (.int y :: .int x :: .ref a :: ST) M h = q_k X (Rn X d 110 0 [some (.ref a), some (.int x), some (.int y), none] [] M (j_h0 h)) h (d + 1) 120 418 LS ST := s_callS (Or.inr (Or.inl rfl)) mt_120 dL_isSound_415 cl_8_78 mt_110 rfl (Nat.le_add_left _ _) rfl rfl rfl rfl hcs
theorem e120_418 : Rn X d 120 418 LS (.int y :: .int x :: ST) M h = q_eq X x y d 120 421 496 LS ST M h := s_icne mt_120 dL_isSound_418 rfl
theorem e120_421 : Rn X d 120 421 (some (.ref a) :: t) ST M h = Rn X d 120 422 (some (.ref a) :: t) (.ref a :: ST) M h := r_aload_n mt_120 dL_isSound_421 rfl
theorem e120_422 : Rn X d 120 422 (l0 :: l1 :: l2 :: l3 :: l4 :: l5 :: some (.int x) :: t) ST M h = Rn X d 120 424 (l0 :: l1 :: l2 :: l3 :: l4 :: l5 :: some (.int x) :: t) (.int x :: ST) M h := r_iload mt_120 dL_isSound_422 rfl
theorem e120_424 : Rn X d 120 424 LS ST M h = Rn X d 120 425 LS (.int (zN 1) :: ST) M h := r_iconst mt_120 dL_isSound_424 c_ic1
theorem e120_425 (hcs : Nat.ble (j_cs ST) 8 = true) : Rn X (d + 1) 120 425 LS (.int y :: .int x :: .ref a :: ST) M h = q_k X (Rn X d 110 0 [some (.ref a), some (.int x), some (.int y), none] [] M (j_h0 h)) h (d + 1) 120 428 LS ST := s_callS (Or.inr (Or.inl rfl)) mt_120 dL_isSound_425 cl_8_78 mt_110 rfl (Nat.le_add_left _ _) rfl rfl rfl rfl hcs
theorem e120_428 : Rn X d 120 428 (l0 :: l1 :: l2 :: l3 :: l4 :: l5 :: l6 :: l7 :: some (.int x) :: t) ST M h = Rn X d 120 430 (l0 :: l1 :: l2 :: l3 :: l4 :: l5 :: l6 :: l7 :: some (.int x) :: t) (.int x :: ST) M h := r_iload mt_120 dL_isSound_428 rfl
theorem e120_430 : Rn X d 120 430 LS (.int y :: .int x :: ST) M h = q_lt X y x d 120 496 433 LS ST M h := s_icgt mt_120 dL_isSound_430 rfl
theorem e120_433 : Rn X d 120 433 (l0 :: l1 :: l2 :: l3 :: l4 :: l5 :: l6 :: l7 :: some (.int x) :: t) ST M h = Rn X d 120 435 (l0 :: l1 :: l2 :: l3 :: l4 :: l5 :: l6 :: l7 :: some (.int x) :: t) (.int x :: ST) M h := r_iload mt_120 dL_isSound_433 rfl
theorem e120_435 : Rn X d 120 435 (l0 :: l1 :: l2 :: l3 :: l4 :: l5 :: l6 :: l7 :: l8 :: some (.int x) :: t) ST M h = Rn X d 120 437 (l0 :: l1 :: l2 :: l3 :: l4 :: l5 :: l6 :: l7 :: l8 :: some (.int x) :: t) (.int x :: ST) M h := r_iload mt_120 dL_isSound_435 rfl
theorem e120_437 : Rn X d 120 437 LS (.int y :: .int x :: ST) M h = q_lt X y x d 120 496 440 LS ST M h := s_icgt mt_120 dL_isSound_437 rfl
theorem e120_440 : Rn X d 120 440 (l0 :: l1 :: l2 :: l3 :: l4 :: l5 :: l6 :: l7 :: l8 :: some (.int x) :: t) ST M h = Rn X d 120 442 (l0 :: l1 :: l2 :: l3 :: l4 :: l5 :: l6 :: l7 :: l8 :: some (.int x) :: t) (.int x :: ST) M h := r_iload mt_120 dL_isSound_440 rfl
theorem e120_442 : Rn X d 120 442 (l0 :: l1 :: some (.int x) :: t) ST M h = Rn X d 120 443 (l0 :: l1 :: some (.int x) :: t) (.int x :: ST) M h := r_iload_n mt_120 dL_isSound_442 rfl
theorem e120_443 : Rn X d 120 443 LS (.int y :: .int x :: ST) M h = q_lt X y x d 120 496 446 LS ST M h := s_icgt mt_120 dL_isSound_443 rfl
theorem e120_446 : Rn X d 120 446 (l0 :: l1 :: l2 :: l3 :: l4 :: l5 :: l6 :: l7 :: l8 :: some (.int x) :: t) ST M h = Rn X d 120 448 (l0 :: l1 :: l2 :: l3 :: l4 :: l5 :: l6 :: l7 :: l8 :: some (.int x) :: t) (.int x :: ST) M h := r_iload mt_120 dL_isSound_446 rfl
theorem e120_448 : Rn X d 120 448 (l0 :: l1 :: some (.int x) :: t) ST M h = Rn X d 120 449 (l0 :: l1 :: some (.int x) :: t) (.int x :: ST) M h := r_iload_n mt_120 dL_isSound_448 rfl
theorem e120_449 : Rn X d 120 449 LS (.int y :: .int x :: ST) M h = q_eq X x y d 120 463 452 LS ST M h := s_iceq mt_120 dL_isSound_449 rfl
theorem e120_452 : Rn X d 120 452 (some (.ref a) :: t) ST M h = Rn X d 120 453 (some (.ref a) :: t) (.ref a :: ST) M h := r_aload_n mt_120 dL_isSound_452 rfl
theorem e120_453 : Rn X d 120 453 (l0 :: l1 :: l2 :: l3 :: l4 :: l5 :: l6 :: l7 :: l8 :: some (.int x) :: t) ST M h = Rn X d 120 455 (l0 :: l1 :: l2 :: l3 :: l4 :: l5 :: l6 :: l7 :: l8 :: some (.int x) :: t) (.int x :: ST) M h := r_iload mt_120 dL_isSound_453 rfl
theorem e120_455 : Rn X d 120 455 LS ST M h = Rn X d 120 456 LS (.int (zN 4) :: ST) M h := r_iconst mt_120 dL_isSound_455 c_ic4
theorem e120_456 (hcs : Nat.ble (j_cs ST) 8 = true) : Rn X (d + 1) 120 456 LS (.int y :: .int x :: .ref a :: ST) M h = q_k X (Rn X d 109 0 [some (.ref a), some (.int x), some (.int y), none] [] M (j_h0 h)) h (d + 1) 120 459 LS ST := s_callS (Or.inr (Or.inl rfl)) mt_120 dL_isSound_456 cl_8_84 mt_109 rfl (Nat.le_add_left _ _) rfl rfl rfl rfl hcs
theorem e120_459 : Rn X d 120 459 LS ST M h = Rn X d 120 460 LS (.int (zN 3) :: ST) M h := r_iconst mt_120 dL_isSound_459 c_ic3
theorem e120_460 : Rn X d 120 460 LS (.int y :: .int x :: ST) M h = q_eq X x y d 120 463 496 LS ST M h := s_icne mt_120 dL_isSound_460 rfl
theorem e120_463 : Rn X d 120 463 (some (.ref a) :: t) ST M h = Rn X d 120 464 (some (.ref a) :: t) (.ref a :: ST) M h := r_aload_n mt_120 dL_isSound_463 rfl
theorem e120_464 : Rn X d 120 464 (l0 :: l1 :: l2 :: l3 :: l4 :: l5 :: some (.int x) :: t) ST M h = Rn X d 120 466 (l0 :: l1 :: l2 :: l3 :: l4 :: l5 :: some (.int x) :: t) (.int x :: ST) M h := r_iload mt_120 dL_isSound_464 rfl
theorem e120_466 (hcs : Nat.ble (j_cs ST) 8 = true) : Rn X (d + 1) 120 466 LS (.int x :: .ref a :: ST) M h = q_k X (Rn X d 113 0 [some (.ref a), some (.int x), none] [] M (j_h0 h)) h (d + 1) 120 469 LS ST := s_callS (Or.inr (Or.inl rfl)) mt_120 dL_isSound_466 cl_8_92 mt_113 rfl (Nat.le_add_left _ _) rfl rfl rfl rfl hcs
theorem e120_469 : Rn X d 120 469 (some (.ref a) :: t) ST M h = Rn X d 120 470 (some (.ref a) :: t) (.ref a :: ST) M h := r_aload_n mt_120 dL_isSound_469 rfl
theorem e120_470 : Rn X d 120 470 (l0 :: l1 :: l2 :: l3 :: l4 :: l5 :: some (.int x) :: t) ST M h = Rn X d 120 472 (l0 :: l1 :: l2 :: l3 :: l4 :: l5 :: some (.int x) :: t) (.int x :: ST) M h := r_iload mt_120 dL_isSound_470 rfl
theorem e120_472 : Rn X d 120 472 LS ST M h = Rn X d 120 473 LS (.int (zN 2) :: ST) M h := r_iconst mt_120 dL_isSound_472 c_ic2
theorem e120_473 (hcs : Nat.ble (j_cs ST) 8 = true) : Rn X (d + 1) 120 473 LS (.int y :: .int x :: .ref a :: ST) M h = q_k X (Rn X d 110 0 [some (.ref a), some (.int x), some (.int y), none] [] M (j_h0 h)) h (d + 1) 120 476 LS ST := s_callS (Or.inr (Or.inl rfl)) mt_120 dL_isSound_473 cl_8_78 mt_110 rfl (Nat.le_add_left _ _) rfl rfl rfl rfl hcs
theorem e120_476 : Rn X d 120 476 LS ST M h = Rn X d 120 477 LS (.int (zN 1) :: ST) M h := r_iconst mt_120 dL_isSound_476 c_ic1
theorem e120_477 : Rn X d 120 477 LS (.int y :: .int x :: ST) M h = q_eq X x y d 120 480 488 LS ST M h := s_icne mt_120 dL_isSound_477 rfl
theorem e120_480 : Rn X d 120 480 (l0 :: l1 :: l2 :: l3 :: l4 :: l5 :: l6 :: l7 :: l8 :: some (.int x) :: t) ST M h = Rn X d 120 482 (l0 :: l1 :: l2 :: l3 :: l4 :: l5 :: l6 :: l7 :: l8 :: some (.int x) :: t) (.int x :: ST) M h := r_iload mt_120 dL_isSound_480 rfl
theorem e120_482 : Rn X d 120 482 (l0 :: l1 :: l2 :: l3 :: l4 :: l5 :: l6 :: l7 :: some (.int x) :: t) ST M h = Rn X d 120 484 (l0 :: l1 :: l2 :: l3 :: l4 :: l5 :: l6 :: l7 :: some (.int x) :: t) (.int x :: ST) M h := r_iload mt_120 dL_isSound_482 rfl
theorem e120_484 : Rn X d 120 484 LS (.int y :: .int x :: ST) M h = Rn X d 120 485 LS (.int (x - y) :: ST) M h := r_isub mt_120 dL_isSound_484
theorem e120_485 : Rn X d 120 485 LS ST M h = Rn X d 120 489 LS ST M h := r_goto mt_120 dL_isSound_485 rfl
theorem e120_488 : Rn X d 120 488 LS ST M h = Rn X d 120 489 LS (.int (zN 0) :: ST) M h := r_iconst mt_120 dL_isSound_488 c_ic0
theorem e120_489 : Rn X d 120 489 LS (.int y :: .int x :: ST) M h = q_eq X x y d 120 492 496 LS ST M h := s_icne mt_120 dL_isSound_489 rfl
theorem e120_492 : Rn X d 120 492 LS ST M h = Rn X d 120 493 LS (.int (zN 1) :: ST) M h := r_iconst mt_120 dL_isSound_492 c_ic1
theorem e120_493 : Rn X d 120 493 LS ST M h = Rn X d 120 497 LS ST M h := r_goto mt_120 dL_isSound_493 rfl
theorem e120_496 : Rn X d 120 496 LS ST M h = Rn X d 120 497 LS (.int (zN 0) :: ST) M h := r_iconst mt_120 dL_isSound_496 c_ic0
theorem e120_497 (ho : j_one l4 = true) : Rn X d 120 497 (l0 :: l1 :: l2 :: l3 :: l4 :: l5 :: t) (.int x :: ST) M h = Rn X d 120 499 (l0 :: l1 :: l2 :: l3 :: l4 :: some (.int x) :: t) ST M h := r_istore mt_120 dL_isSound_497 (by show 5 < _; simp only [List.length_cons]; omega) ho rfl
theorem e120_499 : Rn X d 120 499 (l0 :: l1 :: l2 :: l3 :: l4 :: some (.int x) :: t) ST M h = Rn X d 120 501 (l0 :: l1 :: l2 :: l3 :: l4 :: some (.int x) :: t) (.int x :: ST) M h := r_iload mt_120 dL_isSound_499 rfl
theorem e120_501 : Rn X d 120 501 LS (.int x :: ST) M h = q_eq X x (zN 0) d 120 551 504 LS ST M h := s_ifeq mt_120 dL_isSound_501 rfl
theorem e120_504 : Rn X d 120 504 (some (.ref a) :: t) ST M h = Rn X d 120 505 (some (.ref a) :: t) (.ref a :: ST) M h := r_aload_n mt_120 dL_isSound_504 rfl
theorem e120_505 : Rn X d 120 505 (l0 :: l1 :: l2 :: l3 :: l4 :: l5 :: some (.int x) :: t) ST M h = Rn X d 120 507 (l0 :: l1 :: l2 :: l3 :: l4 :: l5 :: some (.int x) :: t) (.int x :: ST) M h := r_iload mt_120 dL_isSound_505 rfl
theorem e120_507 (hcs : Nat.ble (j_cs ST) 8 = true) : Rn X (d + 1) 120 507 LS (.int x :: .ref a :: ST) M h = q_k X (Rn X d 116 0 [some (.ref a), some (.int x), none] [] M (j_h0 h)) h (d + 1) 120 510 LS ST := s_callS (Or.inr (Or.inl rfl)) mt_120 dL_isSound_507 cl_8_94 mt_116 rfl (Nat.le_add_left _ _) rfl rfl rfl rfl hcs
theorem e120_510 : Rn X d 120 510 (some (.ref a) :: t) ST M h = Rn X d 120 511 (some (.ref a) :: t) (.ref a :: ST) M h := r_aload_n mt_120 dL_isSound_510 rfl
theorem e120_511 : Rn X d 120 511 LS ST M h = Rn X d 120 512 LS (.int (zN 0) :: ST) M h := r_iconst mt_120 dL_isSound_511 c_ic0
theorem e120_512 (hcs : Nat.ble (j_cs ST) 8 = true) : Rn X (d + 1) 120 512 LS (.int x :: .ref a :: ST) M h = q_k X (Rn X d 112 0 [some (.ref a), some (.int x), none] [] M (j_h0 h)) h (d + 1) 120 515 LS ST := s_callS (Or.inr (Or.inl rfl)) mt_120 dL_isSound_512 cl_8_73 mt_112 rfl (Nat.le_add_left _ _) rfl rfl rfl rfl hcs
theorem e120_515 : Rn X d 120 515 (l0 :: l1 :: some (.int x) :: t) ST M h = Rn X d 120 516 (l0 :: l1 :: some (.int x) :: t) (.int x :: ST) M h := r_iload_n mt_120 dL_isSound_515 rfl
theorem e120_516 : Rn X d 120 516 LS (.int y :: .int x :: ST) M h = Rn X d 120 517 LS (.int (x - y) :: ST) M h := r_isub mt_120 dL_isSound_516
theorem e120_517 : Rn X d 120 517 (l0 :: l1 :: l2 :: l3 :: l4 :: l5 :: l6 :: l7 :: some (.int x) :: t) ST M h = Rn X d 120 519 (l0 :: l1 :: l2 :: l3 :: l4 :: l5 :: l6 :: l7 :: some (.int x) :: t) (.int x :: ST) M h := r_iload mt_120 dL_isSound_517 rfl
theorem e120_519 : Rn X d 120 519 (some (.ref a) :: t) ST M h = Rn X d 120 520 (some (.ref a) :: t) (.ref a :: ST) M h := r_aload_n mt_120 dL_isSound_519 rfl
theorem e120_520 : Rn X d 120 520 LS ST M h = Rn X d 120 521 LS (.int (zN 1) :: ST) M h := r_iconst mt_120 dL_isSound_520 c_ic1
theorem e120_521 : Rn X d 120 521 (l0 :: l1 :: l2 :: l3 :: l4 :: l5 :: some (.int x) :: t) ST M h = Rn X d 120 523 (l0 :: l1 :: l2 :: l3 :: l4 :: l5 :: some (.int x) :: t) (.int x :: ST) M h := r_iload mt_120 dL_isSound_521 rfl
theorem e120_523 : Rn X d 120 523 LS (.int y :: .int x :: ST) M h = Rn X d 120 524 LS (.int (x - y) :: ST) M h := r_isub mt_120 dL_isSound_523
theorem e120_524 : Rn X d 120 524 LS ST M h = Rn X d 120 525 LS (.int (zN 1) :: ST) M h := r_iconst mt_120 dL_isSound_524 c_ic1
theorem e120_525 (hcs : Nat.ble (j_cs ST) 8 = true) : Rn X (d + 1) 120 525 LS (.int y :: .int x :: .ref a :: ST) M h = q_k X (Rn X d 110 0 [some (.ref a), some (.int x), some (.int y), none] [] M (j_h0 h)) h (d + 1) 120 528 LS ST := s_callS (Or.inr (Or.inl rfl)) mt_120 dL_isSound_525 cl_8_78 mt_110 rfl (Nat.le_add_left _ _) rfl rfl rfl rfl hcs
theorem e120_528 (hcs : Nat.ble (j_cs ST) 8 = true) : Rn X (d + 1) 120 528 LS (.int y :: .int x :: ST) M h = q_k X (Rn X d 119 0 [some (.int x), some (.int y)] [] M (j_h0 h)) h (d + 1) 120 531 LS ST := s_callS (Or.inl rfl) mt_120 dL_isSound_528 cl_8_81 mt_119 rfl (Nat.le_add_left _ _) rfl rfl rfl rfl hcs
theorem e120_531 : Rn X d 120 531 LS (.int y :: .int x :: ST) M h = Rn X d 120 532 LS (.int (x + y) :: ST) M h := r_iadd mt_120 dL_isSound_531
theorem e120_532 : Rn X d 120 532 LS (.int y :: .int x :: ST) M h = q_eq X x y d 120 535 551 LS ST M h := s_icne mt_120 dL_isSound_532 rfl
theorem e120_535 : Rn X d 120 535 (some (.ref a) :: t) ST M h = Rn X d 120 536 (some (.ref a) :: t) (.ref a :: ST) M h := r_aload_n mt_120 dL_isSound_535 rfl
theorem e120_536 : Rn X d 120 536 (l0 :: l1 :: l2 :: l3 :: l4 :: l5 :: some (.int x) :: t) ST M h = Rn X d 120 538 (l0 :: l1 :: l2 :: l3 :: l4 :: l5 :: some (.int x) :: t) (.int x :: ST) M h := r_iload mt_120 dL_isSound_536 rfl
theorem e120_538 : Rn X d 120 538 LS ST M h = Rn X d 120 539 LS (.int (zN 4) :: ST) M h := r_iconst mt_120 dL_isSound_538 c_ic4
theorem e120_539 (hcs : Nat.ble (j_cs ST) 8 = true) : Rn X (d + 1) 120 539 LS (.int y :: .int x :: .ref a :: ST) M h = q_k X (Rn X d 110 0 [some (.ref a), some (.int x), some (.int y), none] [] M (j_h0 h)) h (d + 1) 120 542 LS ST := s_callS (Or.inr (Or.inl rfl)) mt_120 dL_isSound_539 cl_8_78 mt_110 rfl (Nat.le_add_left _ _) rfl rfl rfl rfl hcs
theorem e120_542 : Rn X d 120 542 (l0 :: l1 :: l2 :: l3 :: l4 :: l5 :: l6 :: l7 :: some (.int x) :: t) ST M h = Rn X d 120 544 (l0 :: l1 :: l2 :: l3 :: l4 :: l5 :: l6 :: l7 :: some (.int x) :: t) (.int x :: ST) M h := r_iload mt_120 dL_isSound_542 rfl
theorem e120_544 : Rn X d 120 544 LS (.int y :: .int x :: ST) M h = q_lt X x y d 120 551 547 LS ST M h := s_iclt mt_120 dL_isSound_544 rfl
theorem e120_547 : Rn X d 120 547 LS ST M h = Rn X d 120 548 LS (.int (zN 1) :: ST) M h := r_iconst mt_120 dL_isSound_547 c_ic1
theorem e120_548 : Rn X d 120 548 LS ST M h = Rn X d 120 552 LS ST M h := r_goto mt_120 dL_isSound_548 rfl
theorem e120_551 : Rn X d 120 551 LS ST M h = Rn X d 120 552 LS (.int (zN 0) :: ST) M h := r_iconst mt_120 dL_isSound_551 c_ic0
theorem e120_552 (ho : j_one l4 = true) : Rn X d 120 552 (l0 :: l1 :: l2 :: l3 :: l4 :: l5 :: t) (.int x :: ST) M h = Rn X d 120 554 (l0 :: l1 :: l2 :: l3 :: l4 :: some (.int x) :: t) ST M h := r_istore mt_120 dL_isSound_552 (by show 5 < _; simp only [List.length_cons]; omega) ho rfl
theorem e120_554 (ho : j_one l5 = true) : Rn X d 120 554 (l0 :: l1 :: l2 :: l3 :: l4 :: l5 :: some (.int x) :: t) ST M h = Rn X d 120 557 (l0 :: l1 :: l2 :: l3 :: l4 :: l5 :: some (.int (x + (zN 1))) :: t) ST M h := r_iinc mt_120 dL_isSound_554 rfl (by simp only [List.length_cons]; omega) ho c_ic1 rfl
theorem e120_557 : Rn X d 120 557 LS ST M h = Rn X d 120 273 LS ST M h := r_goto mt_120 dL_isSound_557 rfl
theorem e120_560 : Rn X d 120 560 (some (.ref a) :: t) ST M h = Rn X d 120 561 (some (.ref a) :: t) (.ref a :: ST) M h := r_aload_n mt_120 dL_isSound_560 rfl
theorem e120_561 (hcs : Nat.ble (j_cs ST) 8 = true) : Rn X (d + 1) 120 561 LS (.ref a :: ST) M h = j_rc (M a) 4 (q_k X (Rn X d 79 0 [some (.ref a)] [] M (j_h0 h)) h (d + 1) 120 564 LS ST) := s_callV mt_120 dL_isSound_561 cl_8_96 mt_79 rfl rfl (Nat.le_add_left _ _) rfl rfl rfl rfl hcs
theorem e120_564 (ho : j_one l5 = true) : Rn X d 120 564 (l0 :: l1 :: l2 :: l3 :: l4 :: l5 :: l6 :: t) (.int x :: ST) M h = Rn X d 120 566 (l0 :: l1 :: l2 :: l3 :: l4 :: l5 :: some (.int x) :: t) ST M h := r_istore mt_120 dL_isSound_564 (by show 6 < _; simp only [List.length_cons]; omega) ho rfl
theorem e120_566 : Rn X d 120 566 (l0 :: l1 :: l2 :: l3 :: l4 :: some (.int x) :: t) ST M h = Rn X d 120 568 (l0 :: l1 :: l2 :: l3 :: l4 :: some (.int x) :: t) (.int x :: ST) M h := r_iload mt_120 dL_isSound_566 rfl
theorem e120_568 : Rn X d 120 568 LS (.int x :: ST) M h = q_eq X x (zN 0) d 120 618 571 LS ST M h := s_ifeq mt_120 dL_isSound_568 rfl
theorem e120_571 : Rn X d 120 571 (l0 :: l1 :: l2 :: l3 :: l4 :: l5 :: some (.int x) :: t) ST M h = Rn X d 120 573 (l0 :: l1 :: l2 :: l3 :: l4 :: l5 :: some (.int x) :: t) (.int x :: ST) M h := r_iload mt_120 dL_isSound_571 rfl
theorem e120_573 : Rn X d 120 573 LS ST M h = Rn X d 120 574 LS (.int (zN 2) :: ST) M h := r_iconst mt_120 dL_isSound_573 c_ic2
theorem e120_574 : Rn X d 120 574 LS (.int y :: .int x :: ST) M h = q_eq X x y d 120 577 595 LS ST M h := s_icne mt_120 dL_isSound_574 rfl
theorem e120_577 : Rn X d 120 577 (some (.ref a) :: t) ST M h = Rn X d 120 578 (some (.ref a) :: t) (.ref a :: ST) M h := r_aload_n mt_120 dL_isSound_577 rfl
theorem e120_578 : Rn X d 120 578 LS ST M h = Rn X d 120 579 LS (.int (zN 0) :: ST) M h := r_iconst mt_120 dL_isSound_578 c_ic0
theorem e120_579 : Rn X d 120 579 LS ST M h = Rn X d 120 580 LS (.int (zN 1) :: ST) M h := r_iconst mt_120 dL_isSound_579 c_ic1
theorem e120_580 (hcs : Nat.ble (j_cs ST) 8 = true) : Rn X (d + 1) 120 580 LS (.int y :: .int x :: .ref a :: ST) M h = q_k X (Rn X d 110 0 [some (.ref a), some (.int x), some (.int y), none] [] M (j_h0 h)) h (d + 1) 120 583 LS ST := s_callS (Or.inr (Or.inl rfl)) mt_120 dL_isSound_580 cl_8_78 mt_110 rfl (Nat.le_add_left _ _) rfl rfl rfl rfl hcs
theorem e120_583 : Rn X d 120 583 (some (.ref a) :: t) ST M h = Rn X d 120 584 (some (.ref a) :: t) (.ref a :: ST) M h := r_aload_n mt_120 dL_isSound_583 rfl
theorem e120_584 : Rn X d 120 584 LS ST M h = Rn X d 120 585 LS (.int (zN 1) :: ST) M h := r_iconst mt_120 dL_isSound_584 c_ic1
theorem e120_585 : Rn X d 120 585 LS ST M h = Rn X d 120 586 LS (.int (zN 1) :: ST) M h := r_iconst mt_120 dL_isSound_585 c_ic1
theorem e120_586 (hcs : Nat.ble (j_cs ST) 8 = true) : Rn X (d + 1) 120 586 LS (.int y :: .int x :: .ref a :: ST) M h = q_k X (Rn X d 110 0 [some (.ref a), some (.int x), some (.int y), none] [] M (j_h0 h)) h (d + 1) 120 589 LS ST := s_callS (Or.inr (Or.inl rfl)) mt_120 dL_isSound_586 cl_8_78 mt_110 rfl (Nat.le_add_left _ _) rfl rfl rfl rfl hcs
theorem e120_589 : Rn X d 120 589 LS (.int y :: .int x :: ST) M h = q_eq X x y d 120 592 618 LS ST M h := s_icne mt_120 dL_isSound_589 rfl
theorem e120_592 : Rn X d 120 592 LS ST M h = Rn X d 120 614 LS ST M h := r_goto mt_120 dL_isSound_592 rfl
theorem e120_595 : Rn X d 120 595 (some (.ref a) :: t) ST M h = Rn X d 120 596 (some (.ref a) :: t) (.ref a :: ST) M h := r_aload_n mt_120 dL_isSound_595 rfl
theorem e120_596 : Rn X d 120 596 (l0 :: l1 :: l2 :: l3 :: l4 :: l5 :: some (.int x) :: t) ST M h = Rn X d 120 598 (l0 :: l1 :: l2 :: l3 :: l4 :: l5 :: some (.int x) :: t) (.int x :: ST) M h := r_iload mt_120 dL_isSound_596 rfl
theorem e120_598 : Rn X d 120 598 LS ST M h = Rn X d 120 599 LS (.int (zN 1) :: ST) M h := r_iconst mt_120 dL_isSound_598 c_ic1
theorem e120_599 (hcs : Nat.ble (j_cs ST) 8 = true) : Rn X (d + 1) 120 599 LS (.int y :: .int x :: .ref a :: ST) M h = q_k X (Rn X d 110 0 [some (.ref a), some (.int x), some (.int y), none] [] M (j_h0 h)) h (d + 1) 120 602 LS ST := s_callS (Or.inr (Or.inl rfl)) mt_120 dL_isSound_599 cl_8_78 mt_110 rfl (Nat.le_add_left _ _) rfl rfl rfl rfl hcs
theorem e120_602 : Rn X d 120 602 (some (.ref a) :: t) ST M h = Rn X d 120 603 (some (.ref a) :: t) (.ref a :: ST) M h := r_aload_n mt_120 dL_isSound_602 rfl
theorem e120_603 : Rn X d 120 603 LS ST M h = Rn X d 120 604 LS (.int (zN 1) :: ST) M h := r_iconst mt_120 dL_isSound_603 c_ic1
theorem e120_604 : Rn X d 120 604 (l0 :: l1 :: l2 :: l3 :: l4 :: l5 :: some (.int x) :: t) ST M h = Rn X d 120 606 (l0 :: l1 :: l2 :: l3 :: l4 :: l5 :: some (.int x) :: t) (.int x :: ST) M h := r_iload mt_120 dL_isSound_604 rfl
theorem e120_606 : Rn X d 120 606 LS (.int y :: .int x :: ST) M h = Rn X d 120 607 LS (.int (x - y) :: ST) M h := r_isub mt_120 dL_isSound_606
theorem e120_607 : Rn X d 120 607 LS ST M h = Rn X d 120 608 LS (.int (zN 1) :: ST) M h := r_iconst mt_120 dL_isSound_607 c_ic1
theorem e120_608 (hcs : Nat.ble (j_cs ST) 8 = true) : Rn X (d + 1) 120 608 LS (.int y :: .int x :: .ref a :: ST) M h = q_k X (Rn X d 110 0 [some (.ref a), some (.int x), some (.int y), none] [] M (j_h0 h)) h (d + 1) 120 611 LS ST := s_callS (Or.inr (Or.inl rfl)) mt_120 dL_isSound_608 cl_8_78 mt_110 rfl (Nat.le_add_left _ _) rfl rfl rfl rfl hcs
theorem e120_611 : Rn X d 120 611 LS (.int y :: .int x :: ST) M h = q_le X y x d 120 618 614 LS ST M h := s_icge mt_120 dL_isSound_611 rfl
theorem e120_614 : Rn X d 120 614 LS ST M h = Rn X d 120 615 LS (.int (zN 1) :: ST) M h := r_iconst mt_120 dL_isSound_614 c_ic1
theorem e120_615 : Rn X d 120 615 LS ST M h = Rn X d 120 619 LS ST M h := r_goto mt_120 dL_isSound_615 rfl
theorem e120_618 : Rn X d 120 618 LS ST M h = Rn X d 120 619 LS (.int (zN 0) :: ST) M h := r_iconst mt_120 dL_isSound_618 c_ic0
theorem e120_619 (ho : j_one l4 = true) : Rn X d 120 619 (l0 :: l1 :: l2 :: l3 :: l4 :: l5 :: t) (.int x :: ST) M h = Rn X d 120 621 (l0 :: l1 :: l2 :: l3 :: l4 :: some (.int x) :: t) ST M h := r_istore mt_120 dL_isSound_619 (by show 5 < _; simp only [List.length_cons]; omega) ho rfl
theorem e120_621 : Rn X d 120 621 (l0 :: l1 :: l2 :: l3 :: l4 :: some (.int x) :: t) ST M h = Rn X d 120 623 (l0 :: l1 :: l2 :: l3 :: l4 :: some (.int x) :: t) (.int x :: ST) M h := r_iload mt_120 dL_isSound_621 rfl
theorem e120_623 : Rn X d 120 623 LS (.int x :: ST) M h = q_eq X x (zN 0) d 120 676 626 LS ST M h := s_ifeq mt_120 dL_isSound_623 rfl
theorem e120_626 : Rn X d 120 626 (some (.ref a) :: t) ST M h = Rn X d 120 627 (some (.ref a) :: t) (.ref a :: ST) M h := r_aload_n mt_120 dL_isSound_626 rfl
theorem e120_627 (hcs : Nat.ble (j_cs ST) 8 = true) : Rn X (d + 1) 120 627 LS (.ref a :: ST) M h = j_rc (M a) 4 (q_k X (Rn X d 77 0 [some (.ref a), none, none] [] M (j_h0 h)) h (d + 1) 120 630 LS ST) := s_callV mt_120 dL_isSound_627 cl_8_99 mt_77 rfl rfl (Nat.le_add_left _ _) rfl rfl rfl rfl hcs
theorem e120_630 : Rn X d 120 630 LS ST M h = Rn X d 120 631 LS (.int (zN 1) :: ST) M h := r_iconst mt_120 dL_isSound_630 c_ic1
theorem e120_631 : Rn X d 120 631 LS (.int y :: .int x :: ST) M h = q_eq X x y d 120 647 634 LS ST M h := s_iceq mt_120 dL_isSound_631 rfl
theorem e120_634 : Rn X d 120 634 (some (.ref a) :: t) ST M h = Rn X d 120 635 (some (.ref a) :: t) (.ref a :: ST) M h := r_aload_n mt_120 dL_isSound_634 rfl
theorem e120_635 (hcs : Nat.ble (j_cs ST) 8 = true) : Rn X (d + 1) 120 635 LS (.ref a :: ST) M h = j_rc (M a) 4 (q_k X (Rn X d 77 0 [some (.ref a), none, none] [] M (j_h0 h)) h (d + 1) 120 638 LS ST) := s_callV mt_120 dL_isSound_635 cl_8_99 mt_77 rfl rfl (Nat.le_add_left _ _) rfl rfl rfl rfl hcs
theorem e120_638 : Rn X d 120 638 LS ST M h = Rn X d 120 639 LS (.int (zM 0) :: ST) M h := r_iconst mt_120 dL_isSound_638 c_icm1
theorem e120_639 : Rn X d 120 639 LS (.int y :: .int x :: ST) M h = q_eq X x y d 120 642 676 LS ST M h := s_icne mt_120 dL_isSound_639 rfl
theorem e120_642 : Rn X d 120 642 (l0 :: l1 :: l2 :: l3 :: some (.int x) :: t) ST M h = Rn X d 120 644 (l0 :: l1 :: l2 :: l3 :: some (.int x) :: t) (.int x :: ST) M h := r_iload mt_120 dL_isSound_642 rfl
theorem e120_644 : Rn X d 120 644 LS (.int x :: ST) M h = q_le X x (zN 0) d 120 676 647 LS ST M h := s_ifle mt_120 dL_isSound_644 rfl
theorem e120_647 : Rn X d 120 647 (some (.ref a) :: t) ST M h = Rn X d 120 648 (some (.ref a) :: t) (.ref a :: ST) M h := r_aload_n mt_120 dL_isSound_647 rfl
theorem e120_648 : Rn X d 120 648 (l0 :: l1 :: some (.int x) :: t) ST M h = Rn X d 120 649 (l0 :: l1 :: some (.int x) :: t) (.int x :: ST) M h := r_iload_n mt_120 dL_isSound_648 rfl
theorem e120_649 : Rn X d 120 649 LS ST M h = Rn X d 120 650 LS (.int (zN 1) :: ST) M h := r_iconst mt_120 dL_isSound_649 c_ic1
theorem e120_650 : Rn X d 120 650 LS (.int y :: .int x :: ST) M h = Rn X d 120 651 LS (.int (x + y) :: ST) M h := r_iadd mt_120 dL_isSound_650
theorem e120_651 : Rn X d 120 651 LS ST M h = Rn X d 120 652 LS (.int (zN 0) :: ST) M h := r_iconst mt_120 dL_isSound_651 c_ic0
theorem e120_652 (hcs : Nat.ble (j_cs ST) 8 = true) : Rn X (d + 1) 120 652 LS (.int y :: .int x :: .ref a :: ST) M h = q_k X (Rn X d 115 0 [some (.ref a), some (.int x), some (.int y), none] [] M (j_h0 h)) h (d + 1) 120 655 LS ST := s_callS (Or.inr (Or.inl rfl)) mt_120 dL_isSound_652 cl_8_88 mt_115 rfl (Nat.le_add_left _ _) rfl rfl rfl rfl hcs
theorem e120_655 : Rn X d 120 655 LS ST M h = Rn X d 120 656 LS (.int (zM 0) :: ST) M h := r_iconst mt_120 dL_isSound_655 c_icm1
theorem e120_656 : Rn X d 120 656 LS (.int y :: .int x :: ST) M h = q_eq X x y d 120 659 676 LS ST M h := s_icne mt_120 dL_isSound_656 rfl
theorem e120_659 : Rn X d 120 659 (some (.ref a) :: t) ST M h = Rn X d 120 660 (some (.ref a) :: t) (.ref a :: ST) M h := r_aload_n mt_120 dL_isSound_659 rfl
theorem e120_660 : Rn X d 120 660 (l0 :: some (.int x) :: t) ST M h = Rn X d 120 661 (l0 :: some (.int x) :: t) (.int x :: ST) M h := r_iload_n mt_120 dL_isSound_660 rfl
theorem e120_661 : Rn X d 120 661 LS ST M h = Rn X d 120 662 LS (.int (zN 1) :: ST) M h := r_iconst mt_120 dL_isSound_661 c_ic1
theorem e120_662 : Rn X d 120 662 LS (.int y :: .int x :: ST) M h = Rn X d 120 663 LS (.int (x - y) :: ST) M h := r_isub mt_120 dL_isSound_662
theorem e120_663 : Rn X d 120 663 LS ST M h = Rn X d 120 665 LS (.int (zN 7) :: ST) M h := r_bipush mt_120 dL_isSound_663 c_bi7
theorem e120_665 (hcs : Nat.ble (j_cs ST) 8 = true) : Rn X (d + 1) 120 665 LS (.int y :: .int x :: .ref a :: ST) M h = q_k X (Rn X d 115 0 [some (.ref a), some (.int x), some (.int y), none] [] M (j_h0 h)) h (d + 1) 120 668 LS ST := s_callS (Or.inr (Or.inl rfl)) mt_120 dL_isSound_665 cl_8_88 mt_115 rfl (Nat.le_add_left _ _) rfl rfl rfl rfl hcs
theorem e120_668 : Rn X d 120 668 LS ST M h = Rn X d 120 669 LS (.int (zM 0) :: ST) M h := r_iconst mt_120 dL_isSound_668 c_icm1
theorem e120_669 : Rn X d 120 669 LS (.int y :: .int x :: ST) M h = q_eq X x y d 120 672 676 LS ST M h := s_icne mt_120 dL_isSound_669 rfl
theorem e120_672 : Rn X d 120 672 LS ST M h = Rn X d 120 673 LS (.int (zN 1) :: ST) M h := r_iconst mt_120 dL_isSound_672 c_ic1
theorem e120_673 : Rn X d 120 673 LS ST M h = Rn X d 120 677 LS ST M h := r_goto mt_120 dL_isSound_673 rfl
theorem e120_676 : Rn X d 120 676 LS ST M h = Rn X d 120 677 LS (.int (zN 0) :: ST) M h := r_iconst mt_120 dL_isSound_676 c_ic0
theorem e120_677 {v : Nat} (h0 : v < 2) : Rn X d 120 677 LS ([.int (zN v)]) M h = some (.inl (some (.int (zN v))), M, h) := s_zret mt_120 dL_isSound_677 rfl h0
end
