/-! one rule an instruction, printed by wip/whole/gen25.py -/
section
variable {X : jX} {d : Nat} {l0 l1 l2 l3 l4 l5 l6 l7 l8 l9 l10 l11 : Option Value} {LS t : jL} {ST : List Value} {M : jM} {h : jH} {x y z w u : Int32} {a b c e : Nat} {p q : Int64} {f g : UInt64}
theorem e86_0 : Rn X d 86 0 LS ST M h = Rn X d 86 3 LS (.long 31 :: ST) M h := r_ldc2_w mt_86 dX4_mix_0 kj_4_283
theorem e86_3 : Rn X d 86 3 (some (.long p) :: t) ST M h = Rn X d 86 4 (some (.long p) :: t) (.long p :: ST) M h := r_lload_n mt_86 dX4_mix_3 rfl
theorem e86_4 : Rn X d 86 4 LS (.long q :: .long p :: ST) M h = Rn X d 86 5 LS (.long (p * q) :: ST) M h := r_lmul mt_86 dX4_mix_4
theorem e86_5 : Rn X d 86 5 (l0 :: l1 :: some (.long p) :: t) ST M h = Rn X d 86 6 (l0 :: l1 :: some (.long p) :: t) (.long p :: ST) M h := r_lload_n mt_86 dX4_mix_5 rfl
theorem e86_6 : Rn X d 86 6 LS (.long q :: .long p :: ST) M h = Rn X d 86 7 LS (.long (p + q) :: ST) M h := r_ladd mt_86 dX4_mix_6
theorem e86_7 : Rn X d 86 7 LS ([.long p]) M h = some (.inl (some (.long p)), M, h) := r_lret mt_86 dX4_mix_7 rfl
theorem e87_0 : Rn X d 87 0 (l0 :: some (.long p) :: t) ST M h = Rn X d 87 1 (l0 :: some (.long p) :: t) (.long p :: ST) M h := r_lload_n mt_87 dX4_mixOrders_0 rfl
theorem e87_1 (ho : j_one l2 = true) : Rn X d 87 1 (l0 :: l1 :: l2 :: l3 :: l4 :: t) (.long p :: ST) M h = Rn X d 87 2 (l0 :: l1 :: l2 :: some (.long p) :: none :: t) ST M h := r_lstore_n mt_87 dX4_mixOrders_1 (by show 4 < _; simp only [List.length_cons]; omega) ho rfl
theorem e87_2 : Rn X d 87 2 (some (.ref a) :: t) ST M h = Rn X d 87 3 (some (.ref a) :: t) (.ref a :: ST) M h := r_aload_n mt_87 dX4_mixOrders_2 rfl
theorem e87_3 : Rn X d 87 3 LS (.ref a :: ST) M h = q_g X (M a) 4 0 d 87 6 LS ST M h := s_get mt_87 dX4_mixOrders_3 f_4_10
theorem e87_6 : Rn X d 87 6 LS (.ref a :: ST) M h = q_g X (M a) 2 0 d 87 9 LS ST M h := s_get mt_87 dX4_mixOrders_6 f_4_45
theorem e87_9 : Rn X d 87 9 LS (.ref a :: ST) M h = q_g X (M a) 0 1 d 87 12 LS ST M h := s_get mt_87 dX4_mixOrders_9 f_4_170
theorem e87_12 (ho : j_one l4 = true) : Rn X d 87 12 (l0 :: l1 :: l2 :: l3 :: l4 :: l5 :: t) (.int x :: ST) M h = Rn X d 87 14 (l0 :: l1 :: l2 :: l3 :: l4 :: some (.int x) :: t) ST M h := r_istore mt_87 dX4_mixOrders_12 (by show 5 < _; simp only [List.length_cons]; omega) ho rfl
theorem e87_14 : Rn X d 87 14 (l0 :: l1 :: l2 :: l3 :: l4 :: some (.int x) :: t) ST M h = Rn X d 87 16 (l0 :: l1 :: l2 :: l3 :: l4 :: some (.int x) :: t) (.int x :: ST) M h := r_iload mt_87 dX4_mixOrders_14 rfl
theorem e87_16 : Rn X d 87 16 (some (.ref a) :: t) ST M h = Rn X d 87 17 (some (.ref a) :: t) (.ref a :: ST) M h := r_aload_n mt_87 dX4_mixOrders_16 rfl
theorem e87_17 : Rn X d 87 17 LS (.ref a :: ST) M h = q_g X (M a) 4 0 d 87 20 LS ST M h := s_get mt_87 dX4_mixOrders_17 f_4_10
theorem e87_20 : Rn X d 87 20 LS (.ref a :: ST) M h = q_g X (M a) 2 0 d 87 23 LS ST M h := s_get mt_87 dX4_mixOrders_20 f_4_45
theorem e87_23 : Rn X d 87 23 LS (.ref a :: ST) M h = q_g X (M a) 0 2 d 87 26 LS ST M h := s_get mt_87 dX4_mixOrders_23 f_4_173
theorem e87_26 : Rn X d 87 26 LS (.int y :: .int x :: ST) M h = q_le X y x d 87 65 29 LS ST M h := s_icge mt_87 dX4_mixOrders_26 rfl
theorem e87_29 : Rn X d 87 29 LS ST M h = Rn X d 87 30 LS (.int (zN 0) :: ST) M h := r_iconst mt_87 dX4_mixOrders_29 c_ic0
theorem e87_30 (ho : j_one l5 = true) : Rn X d 87 30 (l0 :: l1 :: l2 :: l3 :: l4 :: l5 :: l6 :: t) (.int x :: ST) M h = Rn X d 87 32 (l0 :: l1 :: l2 :: l3 :: l4 :: l5 :: some (.int x) :: t) ST M h := r_istore mt_87 dX4_mixOrders_30 (by show 6 < _; simp only [List.length_cons]; omega) ho rfl
theorem e87_32 : Rn X d 87 32 (l0 :: l1 :: l2 :: l3 :: l4 :: l5 :: some (.int x) :: t) ST M h = Rn X d 87 34 (l0 :: l1 :: l2 :: l3 :: l4 :: l5 :: some (.int x) :: t) (.int x :: ST) M h := r_iload mt_87 dX4_mixOrders_32 rfl
theorem e87_34 : Rn X d 87 34 LS ST M h = Rn X d 87 36 LS (.int (zN 6) :: ST) M h := r_bipush mt_87 dX4_mixOrders_34 c_bi6
theorem e87_36 : Rn X d 87 36 LS (.int y :: .int x :: ST) M h = q_le X y x d 87 59 39 LS ST M h := s_icge mt_87 dX4_mixOrders_36 rfl
theorem e87_39 : Rn X d 87 39 (l0 :: l1 :: l2 :: some (.long p) :: t) ST M h = Rn X d 87 40 (l0 :: l1 :: l2 :: some (.long p) :: t) (.long p :: ST) M h := r_lload_n mt_87 dX4_mixOrders_39 rfl
theorem e87_40 : Rn X d 87 40 (some (.ref a) :: t) ST M h = Rn X d 87 41 (some (.ref a) :: t) (.ref a :: ST) M h := r_aload_n mt_87 dX4_mixOrders_40 rfl
theorem e87_41 : Rn X d 87 41 (l0 :: l1 :: l2 :: l3 :: l4 :: some (.int x) :: t) ST M h = Rn X d 87 43 (l0 :: l1 :: l2 :: l3 :: l4 :: some (.int x) :: t) (.int x :: ST) M h := r_iload mt_87 dX4_mixOrders_41 rfl
theorem e87_43 : Rn X d 87 43 (l0 :: l1 :: l2 :: l3 :: l4 :: l5 :: some (.int x) :: t) ST M h = Rn X d 87 45 (l0 :: l1 :: l2 :: l3 :: l4 :: l5 :: some (.int x) :: t) (.int x :: ST) M h := r_iload mt_87 dX4_mixOrders_43 rfl
theorem e87_45 (hcs : Nat.ble (j_cs ST) 8 = true) : Rn X (d + 1) 87 45 LS (.int y :: .int x :: .ref a :: ST) M h = j_rc (M a) 4 (q_k X (Rn X d 70 0 [some (.ref a), some (.int x), some (.int y)] [] M (j_h0 h)) h (d + 1) 87 48 LS ST) := s_callV mt_87 dX4_mixOrders_45 cl_4_285 mt_70 rfl rfl (Nat.le_add_left _ _) rfl rfl rfl rfl hcs
theorem e87_48 : Rn X d 87 48 LS (.int x :: ST) M h = Rn X d 87 49 LS (.long x.toInt64 :: ST) M h := r_i2l mt_87 dX4_mixOrders_48
theorem e87_49 (hcs : Nat.ble (j_cs ST) 8 = true) : Rn X (d + 1) 87 49 LS (.long q :: .long p :: ST) M h = q_k X (Rn X d 86 0 [some (.long p), none, some (.long q), none] [] M (j_h0 h)) h (d + 1) 87 52 LS ST := s_callS (Or.inl rfl) mt_87 dX4_mixOrders_49 cl_4_266 mt_86 rfl (Nat.le_add_left _ _) rfl rfl rfl rfl hcs
theorem e87_52 (ho : j_one l2 = true) : Rn X d 87 52 (l0 :: l1 :: l2 :: l3 :: l4 :: t) (.long p :: ST) M h = Rn X d 87 53 (l0 :: l1 :: l2 :: some (.long p) :: none :: t) ST M h := r_lstore_n mt_87 dX4_mixOrders_52 (by show 4 < _; simp only [List.length_cons]; omega) ho rfl
theorem e87_53 (ho : j_one l5 = true) : Rn X d 87 53 (l0 :: l1 :: l2 :: l3 :: l4 :: l5 :: some (.int x) :: t) ST M h = Rn X d 87 56 (l0 :: l1 :: l2 :: l3 :: l4 :: l5 :: some (.int (x + (zN 1))) :: t) ST M h := r_iinc mt_87 dX4_mixOrders_53 rfl (by simp only [List.length_cons]; omega) ho c_ic1 rfl
theorem e87_56 : Rn X d 87 56 LS ST M h = Rn X d 87 32 LS ST M h := r_goto mt_87 dX4_mixOrders_56 rfl
theorem e87_59 (ho : j_one l4 = true) : Rn X d 87 59 (l0 :: l1 :: l2 :: l3 :: l4 :: some (.int x) :: t) ST M h = Rn X d 87 62 (l0 :: l1 :: l2 :: l3 :: l4 :: some (.int (x + (zN 1))) :: t) ST M h := r_iinc mt_87 dX4_mixOrders_59 rfl (by simp only [List.length_cons]; omega) ho c_ic1 rfl
theorem e87_62 : Rn X d 87 62 LS ST M h = Rn X d 87 14 LS ST M h := r_goto mt_87 dX4_mixOrders_62 rfl
theorem e87_65 : Rn X d 87 65 (l0 :: l1 :: l2 :: some (.long p) :: t) ST M h = Rn X d 87 66 (l0 :: l1 :: l2 :: some (.long p) :: t) (.long p :: ST) M h := r_lload_n mt_87 dX4_mixOrders_65 rfl
theorem e87_66 : Rn X d 87 66 LS ([.long p]) M h = some (.inl (some (.long p)), M, h) := r_lret mt_87 dX4_mixOrders_66 rfl
theorem e88_0 : Rn X d 88 0 (l0 :: some (.long p) :: t) ST M h = Rn X d 88 1 (l0 :: some (.long p) :: t) (.long p :: ST) M h := r_lload_n mt_88 dX4_mixShips_0 rfl
theorem e88_1 (ho : j_one l2 = true) : Rn X d 88 1 (l0 :: l1 :: l2 :: l3 :: l4 :: t) (.long p :: ST) M h = Rn X d 88 2 (l0 :: l1 :: l2 :: some (.long p) :: none :: t) ST M h := r_lstore_n mt_88 dX4_mixShips_1 (by show 4 < _; simp only [List.length_cons]; omega) ho rfl
theorem e88_2 : Rn X d 88 2 LS ST M h = Rn X d 88 3 LS (.int (zN 0) :: ST) M h := r_iconst mt_88 dX4_mixShips_2 c_ic0
theorem e88_3 (ho : j_one l4 = true) : Rn X d 88 3 (l0 :: l1 :: l2 :: l3 :: l4 :: l5 :: t) (.int x :: ST) M h = Rn X d 88 5 (l0 :: l1 :: l2 :: l3 :: l4 :: some (.int x) :: t) ST M h := r_istore mt_88 dX4_mixShips_3 (by show 5 < _; simp only [List.length_cons]; omega) ho rfl
theorem e88_5 : Rn X d 88 5 (l0 :: l1 :: l2 :: l3 :: l4 :: some (.int x) :: t) ST M h = Rn X d 88 7 (l0 :: l1 :: l2 :: l3 :: l4 :: some (.int x) :: t) (.int x :: ST) M h := r_iload mt_88 dX4_mixShips_5 rfl
theorem e88_7 : Rn X d 88 7 LS ST M h = Rn X d 88 8 LS (.int (zN 2) :: ST) M h := r_iconst mt_88 dX4_mixShips_7 c_ic2
theorem e88_8 : Rn X d 88 8 LS (.int y :: .int x :: ST) M h = q_le X y x d 88 77 11 LS ST M h := s_icge mt_88 dX4_mixShips_8 rfl
theorem e88_11 : Rn X d 88 11 LS ST M h = Rn X d 88 12 LS (.int (zN 0) :: ST) M h := r_iconst mt_88 dX4_mixShips_11 c_ic0
theorem e88_12 (ho : j_one l5 = true) : Rn X d 88 12 (l0 :: l1 :: l2 :: l3 :: l4 :: l5 :: l6 :: t) (.int x :: ST) M h = Rn X d 88 14 (l0 :: l1 :: l2 :: l3 :: l4 :: l5 :: some (.int x) :: t) ST M h := r_istore mt_88 dX4_mixShips_12 (by show 6 < _; simp only [List.length_cons]; omega) ho rfl
theorem e88_14 : Rn X d 88 14 (l0 :: l1 :: l2 :: l3 :: l4 :: l5 :: some (.int x) :: t) ST M h = Rn X d 88 16 (l0 :: l1 :: l2 :: l3 :: l4 :: l5 :: some (.int x) :: t) (.int x :: ST) M h := r_iload mt_88 dX4_mixShips_14 rfl
theorem e88_16 : Rn X d 88 16 LS ST M h = Rn X d 88 18 LS (.int (zN 6) :: ST) M h := r_bipush mt_88 dX4_mixShips_16 c_bi6
theorem e88_18 : Rn X d 88 18 LS (.int y :: .int x :: ST) M h = q_le X y x d 88 41 21 LS ST M h := s_icge mt_88 dX4_mixShips_18 rfl
theorem e88_21 : Rn X d 88 21 (l0 :: l1 :: l2 :: some (.long p) :: t) ST M h = Rn X d 88 22 (l0 :: l1 :: l2 :: some (.long p) :: t) (.long p :: ST) M h := r_lload_n mt_88 dX4_mixShips_21 rfl
theorem e88_22 : Rn X d 88 22 (some (.ref a) :: t) ST M h = Rn X d 88 23 (some (.ref a) :: t) (.ref a :: ST) M h := r_aload_n mt_88 dX4_mixShips_22 rfl
theorem e88_23 : Rn X d 88 23 (l0 :: l1 :: l2 :: l3 :: l4 :: some (.int x) :: t) ST M h = Rn X d 88 25 (l0 :: l1 :: l2 :: l3 :: l4 :: some (.int x) :: t) (.int x :: ST) M h := r_iload mt_88 dX4_mixShips_23 rfl
theorem e88_25 : Rn X d 88 25 (l0 :: l1 :: l2 :: l3 :: l4 :: l5 :: some (.int x) :: t) ST M h = Rn X d 88 27 (l0 :: l1 :: l2 :: l3 :: l4 :: l5 :: some (.int x) :: t) (.int x :: ST) M h := r_iload mt_88 dX4_mixShips_25 rfl
theorem e88_27 (hcs : Nat.ble (j_cs ST) 8 = true) : Rn X (d + 1) 88 27 LS (.int y :: .int x :: .ref a :: ST) M h = j_rc (M a) 4 (q_k X (Rn X d 71 0 [some (.ref a), some (.int x), some (.int y), none] [] M (j_h0 h)) h (d + 1) 88 30 LS ST) := s_callV mt_88 dX4_mixShips_27 cl_4_288 mt_71 rfl rfl (Nat.le_add_left _ _) rfl rfl rfl rfl hcs
theorem e88_30 : Rn X d 88 30 LS (.int x :: ST) M h = Rn X d 88 31 LS (.long x.toInt64 :: ST) M h := r_i2l mt_88 dX4_mixShips_30
theorem e88_31 (hcs : Nat.ble (j_cs ST) 8 = true) : Rn X (d + 1) 88 31 LS (.long q :: .long p :: ST) M h = q_k X (Rn X d 86 0 [some (.long p), none, some (.long q), none] [] M (j_h0 h)) h (d + 1) 88 34 LS ST := s_callS (Or.inl rfl) mt_88 dX4_mixShips_31 cl_4_266 mt_86 rfl (Nat.le_add_left _ _) rfl rfl rfl rfl hcs
theorem e88_34 (ho : j_one l2 = true) : Rn X d 88 34 (l0 :: l1 :: l2 :: l3 :: l4 :: t) (.long p :: ST) M h = Rn X d 88 35 (l0 :: l1 :: l2 :: some (.long p) :: none :: t) ST M h := r_lstore_n mt_88 dX4_mixShips_34 (by show 4 < _; simp only [List.length_cons]; omega) ho rfl
theorem e88_35 (ho : j_one l5 = true) : Rn X d 88 35 (l0 :: l1 :: l2 :: l3 :: l4 :: l5 :: some (.int x) :: t) ST M h = Rn X d 88 38 (l0 :: l1 :: l2 :: l3 :: l4 :: l5 :: some (.int (x + (zN 1))) :: t) ST M h := r_iinc mt_88 dX4_mixShips_35 rfl (by simp only [List.length_cons]; omega) ho c_ic1 rfl
theorem e88_38 : Rn X d 88 38 LS ST M h = Rn X d 88 14 LS ST M h := r_goto mt_88 dX4_mixShips_38 rfl
theorem e88_41 : Rn X d 88 41 LS ST M h = Rn X d 88 42 LS (.int (zN 0) :: ST) M h := r_iconst mt_88 dX4_mixShips_41 c_ic0
theorem e88_42 (ho : j_one l5 = true) : Rn X d 88 42 (l0 :: l1 :: l2 :: l3 :: l4 :: l5 :: l6 :: t) (.int x :: ST) M h = Rn X d 88 44 (l0 :: l1 :: l2 :: l3 :: l4 :: l5 :: some (.int x) :: t) ST M h := r_istore mt_88 dX4_mixShips_42 (by show 6 < _; simp only [List.length_cons]; omega) ho rfl
theorem e88_44 : Rn X d 88 44 (l0 :: l1 :: l2 :: l3 :: l4 :: l5 :: some (.int x) :: t) ST M h = Rn X d 88 46 (l0 :: l1 :: l2 :: l3 :: l4 :: l5 :: some (.int x) :: t) (.int x :: ST) M h := r_iload mt_88 dX4_mixShips_44 rfl
theorem e88_46 : Rn X d 88 46 LS ST M h = Rn X d 88 48 LS (.int (zN 8) :: ST) M h := r_bipush mt_88 dX4_mixShips_46 c_bi8
theorem e88_48 : Rn X d 88 48 LS (.int y :: .int x :: ST) M h = q_le X y x d 88 71 51 LS ST M h := s_icge mt_88 dX4_mixShips_48 rfl
theorem e88_51 : Rn X d 88 51 (l0 :: l1 :: l2 :: some (.long p) :: t) ST M h = Rn X d 88 52 (l0 :: l1 :: l2 :: some (.long p) :: t) (.long p :: ST) M h := r_lload_n mt_88 dX4_mixShips_51 rfl
theorem e88_52 : Rn X d 88 52 (some (.ref a) :: t) ST M h = Rn X d 88 53 (some (.ref a) :: t) (.ref a :: ST) M h := r_aload_n mt_88 dX4_mixShips_52 rfl
theorem e88_53 : Rn X d 88 53 (l0 :: l1 :: l2 :: l3 :: l4 :: some (.int x) :: t) ST M h = Rn X d 88 55 (l0 :: l1 :: l2 :: l3 :: l4 :: some (.int x) :: t) (.int x :: ST) M h := r_iload mt_88 dX4_mixShips_53 rfl
theorem e88_55 : Rn X d 88 55 (l0 :: l1 :: l2 :: l3 :: l4 :: l5 :: some (.int x) :: t) ST M h = Rn X d 88 57 (l0 :: l1 :: l2 :: l3 :: l4 :: l5 :: some (.int x) :: t) (.int x :: ST) M h := r_iload mt_88 dX4_mixShips_55 rfl
theorem e88_57 (hcs : Nat.ble (j_cs ST) 8 = true) : Rn X (d + 1) 88 57 LS (.int y :: .int x :: .ref a :: ST) M h = j_rc (M a) 4 (q_k X (Rn X d 72 0 [some (.ref a), some (.int x), some (.int y)] [] M (j_h0 h)) h (d + 1) 88 60 LS ST) := s_callV mt_88 dX4_mixShips_57 cl_4_291 mt_72 rfl rfl (Nat.le_add_left _ _) rfl rfl rfl rfl hcs
theorem e88_60 : Rn X d 88 60 LS (.int x :: ST) M h = Rn X d 88 61 LS (.long x.toInt64 :: ST) M h := r_i2l mt_88 dX4_mixShips_60
theorem e88_61 (hcs : Nat.ble (j_cs ST) 8 = true) : Rn X (d + 1) 88 61 LS (.long q :: .long p :: ST) M h = q_k X (Rn X d 86 0 [some (.long p), none, some (.long q), none] [] M (j_h0 h)) h (d + 1) 88 64 LS ST := s_callS (Or.inl rfl) mt_88 dX4_mixShips_61 cl_4_266 mt_86 rfl (Nat.le_add_left _ _) rfl rfl rfl rfl hcs
theorem e88_64 (ho : j_one l2 = true) : Rn X d 88 64 (l0 :: l1 :: l2 :: l3 :: l4 :: t) (.long p :: ST) M h = Rn X d 88 65 (l0 :: l1 :: l2 :: some (.long p) :: none :: t) ST M h := r_lstore_n mt_88 dX4_mixShips_64 (by show 4 < _; simp only [List.length_cons]; omega) ho rfl
theorem e88_65 (ho : j_one l5 = true) : Rn X d 88 65 (l0 :: l1 :: l2 :: l3 :: l4 :: l5 :: some (.int x) :: t) ST M h = Rn X d 88 68 (l0 :: l1 :: l2 :: l3 :: l4 :: l5 :: some (.int (x + (zN 1))) :: t) ST M h := r_iinc mt_88 dX4_mixShips_65 rfl (by simp only [List.length_cons]; omega) ho c_ic1 rfl
theorem e88_68 : Rn X d 88 68 LS ST M h = Rn X d 88 44 LS ST M h := r_goto mt_88 dX4_mixShips_68 rfl
theorem e88_71 (ho : j_one l4 = true) : Rn X d 88 71 (l0 :: l1 :: l2 :: l3 :: l4 :: some (.int x) :: t) ST M h = Rn X d 88 74 (l0 :: l1 :: l2 :: l3 :: l4 :: some (.int (x + (zN 1))) :: t) ST M h := r_iinc mt_88 dX4_mixShips_71 rfl (by simp only [List.length_cons]; omega) ho c_ic1 rfl
theorem e88_74 : Rn X d 88 74 LS ST M h = Rn X d 88 5 LS ST M h := r_goto mt_88 dX4_mixShips_74 rfl
theorem e88_77 : Rn X d 88 77 (l0 :: l1 :: l2 :: some (.long p) :: t) ST M h = Rn X d 88 78 (l0 :: l1 :: l2 :: some (.long p) :: t) (.long p :: ST) M h := r_lload_n mt_88 dX4_mixShips_77 rfl
theorem e88_78 : Rn X d 88 78 LS ([.long p]) M h = some (.inl (some (.long p)), M, h) := r_lret mt_88 dX4_mixShips_78 rfl
theorem e89_0 : Rn X d 89 0 (l0 :: some (.long p) :: t) ST M h = Rn X d 89 1 (l0 :: some (.long p) :: t) (.long p :: ST) M h := r_lload_n mt_89 dX4_mixForecasts_0 rfl
theorem e89_1 (ho : j_one l2 = true) : Rn X d 89 1 (l0 :: l1 :: l2 :: l3 :: l4 :: t) (.long p :: ST) M h = Rn X d 89 2 (l0 :: l1 :: l2 :: some (.long p) :: none :: t) ST M h := r_lstore_n mt_89 dX4_mixForecasts_1 (by show 4 < _; simp only [List.length_cons]; omega) ho rfl
theorem e89_2 : Rn X d 89 2 LS ST M h = Rn X d 89 3 LS (.int (zN 0) :: ST) M h := r_iconst mt_89 dX4_mixForecasts_2 c_ic0
theorem e89_3 (ho : j_one l4 = true) : Rn X d 89 3 (l0 :: l1 :: l2 :: l3 :: l4 :: l5 :: t) (.int x :: ST) M h = Rn X d 89 5 (l0 :: l1 :: l2 :: l3 :: l4 :: some (.int x) :: t) ST M h := r_istore mt_89 dX4_mixForecasts_3 (by show 5 < _; simp only [List.length_cons]; omega) ho rfl
theorem e89_5 : Rn X d 89 5 (l0 :: l1 :: l2 :: l3 :: l4 :: some (.int x) :: t) ST M h = Rn X d 89 7 (l0 :: l1 :: l2 :: l3 :: l4 :: some (.int x) :: t) (.int x :: ST) M h := r_iload mt_89 dX4_mixForecasts_5 rfl
theorem e89_7 : Rn X d 89 7 LS ST M h = Rn X d 89 8 LS (.int (zN 2) :: ST) M h := r_iconst mt_89 dX4_mixForecasts_7 c_ic2
theorem e89_8 : Rn X d 89 8 LS (.int y :: .int x :: ST) M h = q_le X y x d 89 29 11 LS ST M h := s_icge mt_89 dX4_mixForecasts_8 rfl
theorem e89_11 : Rn X d 89 11 (l0 :: l1 :: l2 :: some (.long p) :: t) ST M h = Rn X d 89 12 (l0 :: l1 :: l2 :: some (.long p) :: t) (.long p :: ST) M h := r_lload_n mt_89 dX4_mixForecasts_11 rfl
theorem e89_12 : Rn X d 89 12 (some (.ref a) :: t) ST M h = Rn X d 89 13 (some (.ref a) :: t) (.ref a :: ST) M h := r_aload_n mt_89 dX4_mixForecasts_12 rfl
theorem e89_13 : Rn X d 89 13 (l0 :: l1 :: l2 :: l3 :: l4 :: some (.int x) :: t) ST M h = Rn X d 89 15 (l0 :: l1 :: l2 :: l3 :: l4 :: some (.int x) :: t) (.int x :: ST) M h := r_iload mt_89 dX4_mixForecasts_13 rfl
theorem e89_15 (hcs : Nat.ble (j_cs ST) 8 = true) : Rn X (d + 1) 89 15 LS (.int x :: .ref a :: ST) M h = j_rc (M a) 4 (q_k X (Rn X d 74 0 [some (.ref a), some (.int x), none] [] M (j_h0 h)) h (d + 1) 89 18 LS ST) := s_callV mt_89 dX4_mixForecasts_15 cl_4_294 mt_74 rfl rfl (Nat.le_add_left _ _) rfl rfl rfl rfl hcs
theorem e89_18 : Rn X d 89 18 LS (.int x :: ST) M h = Rn X d 89 19 LS (.long x.toInt64 :: ST) M h := r_i2l mt_89 dX4_mixForecasts_18
theorem e89_19 (hcs : Nat.ble (j_cs ST) 8 = true) : Rn X (d + 1) 89 19 LS (.long q :: .long p :: ST) M h = q_k X (Rn X d 86 0 [some (.long p), none, some (.long q), none] [] M (j_h0 h)) h (d + 1) 89 22 LS ST := s_callS (Or.inl rfl) mt_89 dX4_mixForecasts_19 cl_4_266 mt_86 rfl (Nat.le_add_left _ _) rfl rfl rfl rfl hcs
theorem e89_22 (ho : j_one l2 = true) : Rn X d 89 22 (l0 :: l1 :: l2 :: l3 :: l4 :: t) (.long p :: ST) M h = Rn X d 89 23 (l0 :: l1 :: l2 :: some (.long p) :: none :: t) ST M h := r_lstore_n mt_89 dX4_mixForecasts_22 (by show 4 < _; simp only [List.length_cons]; omega) ho rfl
theorem e89_23 (ho : j_one l4 = true) : Rn X d 89 23 (l0 :: l1 :: l2 :: l3 :: l4 :: some (.int x) :: t) ST M h = Rn X d 89 26 (l0 :: l1 :: l2 :: l3 :: l4 :: some (.int (x + (zN 1))) :: t) ST M h := r_iinc mt_89 dX4_mixForecasts_23 rfl (by simp only [List.length_cons]; omega) ho c_ic1 rfl
theorem e89_26 : Rn X d 89 26 LS ST M h = Rn X d 89 5 LS ST M h := r_goto mt_89 dX4_mixForecasts_26 rfl
theorem e89_29 : Rn X d 89 29 (l0 :: l1 :: l2 :: some (.long p) :: t) ST M h = Rn X d 89 30 (l0 :: l1 :: l2 :: some (.long p) :: t) (.long p :: ST) M h := r_lload_n mt_89 dX4_mixForecasts_29 rfl
theorem e89_30 : Rn X d 89 30 (some (.ref a) :: t) ST M h = Rn X d 89 31 (some (.ref a) :: t) (.ref a :: ST) M h := r_aload_n mt_89 dX4_mixForecasts_30 rfl
theorem e89_31 (hcs : Nat.ble (j_cs ST) 8 = true) : Rn X (d + 1) 89 31 LS (.ref a :: ST) M h = j_rc (M a) 4 (q_k X (Rn X d 77 0 [some (.ref a), none, none] [] M (j_h0 h)) h (d + 1) 89 34 LS ST) := s_callV mt_89 dX4_mixForecasts_31 cl_4_297 mt_77 rfl rfl (Nat.le_add_left _ _) rfl rfl rfl rfl hcs
theorem e89_34 : Rn X d 89 34 LS (.int x :: ST) M h = Rn X d 89 35 LS (.long x.toInt64 :: ST) M h := r_i2l mt_89 dX4_mixForecasts_34
theorem e89_35 (hcs : Nat.ble (j_cs ST) 8 = true) : Rn X (d + 1) 89 35 LS (.long q :: .long p :: ST) M h = q_k X (Rn X d 86 0 [some (.long p), none, some (.long q), none] [] M (j_h0 h)) h (d + 1) 89 38 LS ST := s_callS (Or.inl rfl) mt_89 dX4_mixForecasts_35 cl_4_266 mt_86 rfl (Nat.le_add_left _ _) rfl rfl rfl rfl hcs
theorem e89_38 (ho : j_one l2 = true) : Rn X d 89 38 (l0 :: l1 :: l2 :: l3 :: l4 :: t) (.long p :: ST) M h = Rn X d 89 39 (l0 :: l1 :: l2 :: some (.long p) :: none :: t) ST M h := r_lstore_n mt_89 dX4_mixForecasts_38 (by show 4 < _; simp only [List.length_cons]; omega) ho rfl
theorem e89_39 : Rn X d 89 39 LS ST M h = Rn X d 89 40 LS (.int (zN 0) :: ST) M h := r_iconst mt_89 dX4_mixForecasts_39 c_ic0
theorem e89_40 (ho : j_one l4 = true) : Rn X d 89 40 (l0 :: l1 :: l2 :: l3 :: l4 :: l5 :: t) (.int x :: ST) M h = Rn X d 89 42 (l0 :: l1 :: l2 :: l3 :: l4 :: some (.int x) :: t) ST M h := r_istore mt_89 dX4_mixForecasts_40 (by show 5 < _; simp only [List.length_cons]; omega) ho rfl
theorem e89_42 : Rn X d 89 42 (l0 :: l1 :: l2 :: l3 :: l4 :: some (.int x) :: t) ST M h = Rn X d 89 44 (l0 :: l1 :: l2 :: l3 :: l4 :: some (.int x) :: t) (.int x :: ST) M h := r_iload mt_89 dX4_mixForecasts_42 rfl
theorem e89_44 : Rn X d 89 44 LS ST M h = Rn X d 89 46 LS (.int (zN 8) :: ST) M h := r_bipush mt_89 dX4_mixForecasts_44 c_bi8
theorem e89_46 : Rn X d 89 46 LS (.int y :: .int x :: ST) M h = q_le X y x d 89 77 49 LS ST M h := s_icge mt_89 dX4_mixForecasts_46 rfl
theorem e89_49 : Rn X d 89 49 (l0 :: l1 :: l2 :: some (.long p) :: t) ST M h = Rn X d 89 50 (l0 :: l1 :: l2 :: some (.long p) :: t) (.long p :: ST) M h := r_lload_n mt_89 dX4_mixForecasts_49 rfl
theorem e89_50 : Rn X d 89 50 (some (.ref a) :: t) ST M h = Rn X d 89 51 (some (.ref a) :: t) (.ref a :: ST) M h := r_aload_n mt_89 dX4_mixForecasts_50 rfl
theorem e89_51 : Rn X d 89 51 (some (.ref a) :: t) ST M h = Rn X d 89 52 (some (.ref a) :: t) (.ref a :: ST) M h := r_aload_n mt_89 dX4_mixForecasts_51 rfl
theorem e89_52 : Rn X d 89 52 LS (.ref a :: ST) M h = q_g X (M a) 4 0 d 89 55 LS ST M h := s_get mt_89 dX4_mixForecasts_52 f_4_10
theorem e89_55 : Rn X d 89 55 LS (.ref a :: ST) M h = q_g X (M a) 2 0 d 89 58 LS ST M h := s_get mt_89 dX4_mixForecasts_55 f_4_45
theorem e89_58 : Rn X d 89 58 LS (.ref a :: ST) M h = q_g X (M a) 0 2 d 89 61 LS ST M h := s_get mt_89 dX4_mixForecasts_58 f_4_173
theorem e89_61 : Rn X d 89 61 (l0 :: l1 :: l2 :: l3 :: l4 :: some (.int x) :: t) ST M h = Rn X d 89 63 (l0 :: l1 :: l2 :: l3 :: l4 :: some (.int x) :: t) (.int x :: ST) M h := r_iload mt_89 dX4_mixForecasts_61 rfl
theorem e89_63 (hcs : Nat.ble (j_cs ST) 8 = true) : Rn X (d + 1) 89 63 LS (.int y :: .int x :: .ref a :: ST) M h = j_rc (M a) 4 (q_k X (Rn X d 76 0 [some (.ref a), some (.int x), some (.int y), none, none] [] M (j_h0 h)) h (d + 1) 89 66 LS ST) := s_callV mt_89 dX4_mixForecasts_63 cl_4_300 mt_76 rfl rfl (Nat.le_add_left _ _) rfl rfl rfl rfl hcs
theorem e89_66 : Rn X d 89 66 LS (.int x :: ST) M h = Rn X d 89 67 LS (.long x.toInt64 :: ST) M h := r_i2l mt_89 dX4_mixForecasts_66
theorem e89_67 (hcs : Nat.ble (j_cs ST) 8 = true) : Rn X (d + 1) 89 67 LS (.long q :: .long p :: ST) M h = q_k X (Rn X d 86 0 [some (.long p), none, some (.long q), none] [] M (j_h0 h)) h (d + 1) 89 70 LS ST := s_callS (Or.inl rfl) mt_89 dX4_mixForecasts_67 cl_4_266 mt_86 rfl (Nat.le_add_left _ _) rfl rfl rfl rfl hcs
theorem e89_70 (ho : j_one l2 = true) : Rn X d 89 70 (l0 :: l1 :: l2 :: l3 :: l4 :: t) (.long p :: ST) M h = Rn X d 89 71 (l0 :: l1 :: l2 :: some (.long p) :: none :: t) ST M h := r_lstore_n mt_89 dX4_mixForecasts_70 (by show 4 < _; simp only [List.length_cons]; omega) ho rfl
theorem e89_71 (ho : j_one l4 = true) : Rn X d 89 71 (l0 :: l1 :: l2 :: l3 :: l4 :: some (.int x) :: t) ST M h = Rn X d 89 74 (l0 :: l1 :: l2 :: l3 :: l4 :: some (.int (x + (zN 1))) :: t) ST M h := r_iinc mt_89 dX4_mixForecasts_71 rfl (by simp only [List.length_cons]; omega) ho c_ic1 rfl
theorem e89_74 : Rn X d 89 74 LS ST M h = Rn X d 89 42 LS ST M h := r_goto mt_89 dX4_mixForecasts_74 rfl
theorem e89_77 : Rn X d 89 77 (l0 :: l1 :: l2 :: some (.long p) :: t) ST M h = Rn X d 89 78 (l0 :: l1 :: l2 :: some (.long p) :: t) (.long p :: ST) M h := r_lload_n mt_89 dX4_mixForecasts_77 rfl
theorem e89_78 : Rn X d 89 78 LS ([.long p]) M h = some (.inl (some (.long p)), M, h) := r_lret mt_89 dX4_mixForecasts_78 rfl
theorem e90_0 : Rn X d 90 0 (some (.int x) :: t) ST M h = Rn X d 90 1 (some (.int x) :: t) (.int x :: ST) M h := r_iload_n mt_90 dX4_isOrder_0 rfl
theorem e90_1 : Rn X d 90 1 LS (.int x :: ST) M h = q_lt X x (zN 0) d 90 50 4 LS ST M h := s_iflt mt_90 dX4_isOrder_1 rfl
theorem e90_4 : Rn X d 90 4 (some (.int x) :: t) ST M h = Rn X d 90 5 (some (.int x) :: t) (.int x :: ST) M h := r_iload_n mt_90 dX4_isOrder_4 rfl
theorem e90_5 : Rn X d 90 5 LS ST M h = Rn X d 90 6 LS (.int (zN 4) :: ST) M h := r_iconst mt_90 dX4_isOrder_5 c_ic4
theorem e90_6 : Rn X d 90 6 LS (.int y :: .int x :: ST) M h = q_lt X y x d 90 50 9 LS ST M h := s_icgt mt_90 dX4_isOrder_6 rfl
theorem e90_9 : Rn X d 90 9 (l0 :: some (.int x) :: t) ST M h = Rn X d 90 10 (l0 :: some (.int x) :: t) (.int x :: ST) M h := r_iload_n mt_90 dX4_isOrder_9 rfl
theorem e90_10 (hcs : Nat.ble (j_cs ST) 8 = true) : Rn X (d + 1) 90 10 LS (.int x :: ST) M h = q_k X (Rn X d 92 0 [some (.int x)] [] M (j_h0 h)) h (d + 1) 90 13 LS ST := s_callS (Or.inl rfl) mt_90 dX4_isOrder_10 cl_4_303 mt_92 rfl (Nat.le_add_left _ _) rfl rfl rfl rfl hcs
theorem e90_13 : Rn X d 90 13 LS (.int x :: ST) M h = q_eq X x (zN 0) d 90 50 16 LS ST M h := s_ifeq mt_90 dX4_isOrder_13 rfl
theorem e90_16 : Rn X d 90 16 (l0 :: l1 :: some (.int x) :: t) ST M h = Rn X d 90 17 (l0 :: l1 :: some (.int x) :: t) (.int x :: ST) M h := r_iload_n mt_90 dX4_isOrder_16 rfl
theorem e90_17 (hcs : Nat.ble (j_cs ST) 8 = true) : Rn X (d + 1) 90 17 LS (.int x :: ST) M h = q_k X (Rn X d 92 0 [some (.int x)] [] M (j_h0 h)) h (d + 1) 90 20 LS ST := s_callS (Or.inl rfl) mt_90 dX4_isOrder_17 cl_4_303 mt_92 rfl (Nat.le_add_left _ _) rfl rfl rfl rfl hcs
theorem e90_20 : Rn X d 90 20 LS (.int x :: ST) M h = q_eq X x (zN 0) d 90 50 23 LS ST M h := s_ifeq mt_90 dX4_isOrder_20 rfl
theorem e90_23 : Rn X d 90 23 (l0 :: l1 :: l2 :: some (.int x) :: t) ST M h = Rn X d 90 24 (l0 :: l1 :: l2 :: some (.int x) :: t) (.int x :: ST) M h := r_iload_n mt_90 dX4_isOrder_23 rfl
theorem e90_24 : Rn X d 90 24 LS ST M h = Rn X d 90 25 LS (.int (zN 1) :: ST) M h := r_iconst mt_90 dX4_isOrder_24 c_ic1
theorem e90_25 : Rn X d 90 25 LS (.int y :: .int x :: ST) M h = q_lt X x y d 90 50 28 LS ST M h := s_iclt mt_90 dX4_isOrder_25 rfl
theorem e90_28 : Rn X d 90 28 (l0 :: l1 :: l2 :: some (.int x) :: t) ST M h = Rn X d 90 29 (l0 :: l1 :: l2 :: some (.int x) :: t) (.int x :: ST) M h := r_iload_n mt_90 dX4_isOrder_28 rfl
theorem e90_29 : Rn X d 90 29 LS ST M h = Rn X d 90 31 LS (.int (zN 99) :: ST) M h := r_bipush mt_90 dX4_isOrder_29 c_bi99
theorem e90_31 : Rn X d 90 31 LS (.int y :: .int x :: ST) M h = q_lt X y x d 90 50 34 LS ST M h := s_icgt mt_90 dX4_isOrder_31 rfl
theorem e90_34 : Rn X d 90 34 (some (.int x) :: t) ST M h = Rn X d 90 35 (some (.int x) :: t) (.int x :: ST) M h := r_iload_n mt_90 dX4_isOrder_34 rfl
theorem e90_35 (hcs : Nat.ble (j_cs ST) 8 = true) : Rn X (d + 1) 90 35 LS (.int x :: ST) M h = q_k X (Rn X d 91 0 [some (.int x)] [] M (j_h0 h)) h (d + 1) 90 38 LS ST := s_callS (Or.inl rfl) mt_90 dX4_isOrder_35 cl_4_307 mt_91 rfl (Nat.le_add_left _ _) rfl rfl rfl rfl hcs
theorem e90_38 : Rn X d 90 38 LS (.int x :: ST) M h = q_eq X x (zN 0) d 90 46 41 LS ST M h := s_ifeq mt_90 dX4_isOrder_38 rfl
theorem e90_41 : Rn X d 90 41 (l0 :: some (.int x) :: t) ST M h = Rn X d 90 42 (l0 :: some (.int x) :: t) (.int x :: ST) M h := r_iload_n mt_90 dX4_isOrder_41 rfl
theorem e90_42 : Rn X d 90 42 (l0 :: l1 :: some (.int x) :: t) ST M h = Rn X d 90 43 (l0 :: l1 :: some (.int x) :: t) (.int x :: ST) M h := r_iload_n mt_90 dX4_isOrder_42 rfl
theorem e90_43 : Rn X d 90 43 LS (.int y :: .int x :: ST) M h = q_eq X x y d 90 50 46 LS ST M h := s_iceq mt_90 dX4_isOrder_43 rfl
theorem e90_46 : Rn X d 90 46 LS ST M h = Rn X d 90 47 LS (.int (zN 1) :: ST) M h := r_iconst mt_90 dX4_isOrder_46 c_ic1
theorem e90_47 : Rn X d 90 47 LS ST M h = Rn X d 90 51 LS ST M h := r_goto mt_90 dX4_isOrder_47 rfl
theorem e90_50 : Rn X d 90 50 LS ST M h = Rn X d 90 51 LS (.int (zN 0) :: ST) M h := r_iconst mt_90 dX4_isOrder_50 c_ic0
theorem e90_51 {v : Nat} (h0 : v < 2) : Rn X d 90 51 LS ([.int (zN v)]) M h = some (.inl (some (.int (zN v))), M, h) := s_zret mt_90 dX4_isOrder_51 rfl h0
theorem e91_0 : Rn X d 91 0 (some (.int x) :: t) ST M h = Rn X d 91 1 (some (.int x) :: t) (.int x :: ST) M h := r_iload_n mt_91 dX4_usesHoldB_0 rfl
theorem e91_1 : Rn X d 91 1 LS ST M h = Rn X d 91 2 LS (.int (zN 2) :: ST) M h := r_iconst mt_91 dX4_usesHoldB_1 c_ic2
theorem e91_2 : Rn X d 91 2 LS (.int y :: .int x :: ST) M h = q_lt X x y d 91 9 5 LS ST M h := s_iclt mt_91 dX4_usesHoldB_2 rfl
theorem e91_5 : Rn X d 91 5 LS ST M h = Rn X d 91 6 LS (.int (zN 1) :: ST) M h := r_iconst mt_91 dX4_usesHoldB_5 c_ic1
theorem e91_6 : Rn X d 91 6 LS ST M h = Rn X d 91 10 LS ST M h := r_goto mt_91 dX4_usesHoldB_6 rfl
theorem e91_9 : Rn X d 91 9 LS ST M h = Rn X d 91 10 LS (.int (zN 0) :: ST) M h := r_iconst mt_91 dX4_usesHoldB_9 c_ic0
theorem e91_10 {v : Nat} (h0 : v < 2) : Rn X d 91 10 LS ([.int (zN v)]) M h = some (.inl (some (.int (zN v))), M, h) := s_zret mt_91 dX4_usesHoldB_10 rfl h0
theorem e92_0 : Rn X d 92 0 (some (.int x) :: t) ST M h = Rn X d 92 1 (some (.int x) :: t) (.int x :: ST) M h := r_iload_n mt_92 dX4_isHold_0 rfl
theorem e92_1 : Rn X d 92 1 LS (.int x :: ST) M h = q_lt X x (zN 0) d 92 14 4 LS ST M h := s_iflt mt_92 dX4_isHold_1 rfl
theorem e92_4 : Rn X d 92 4 (some (.int x) :: t) ST M h = Rn X d 92 5 (some (.int x) :: t) (.int x :: ST) M h := r_iload_n mt_92 dX4_isHold_4 rfl
theorem e92_5 : Rn X d 92 5 LS ST M h = Rn X d 92 7 LS (.int (zN 8) :: ST) M h := r_bipush mt_92 dX4_isHold_5 c_bi8
theorem e92_7 : Rn X d 92 7 LS (.int y :: .int x :: ST) M h = q_le X y x d 92 14 10 LS ST M h := s_icge mt_92 dX4_isHold_7 rfl
theorem e92_10 : Rn X d 92 10 LS ST M h = Rn X d 92 11 LS (.int (zN 1) :: ST) M h := r_iconst mt_92 dX4_isHold_10 c_ic1
theorem e92_11 : Rn X d 92 11 LS ST M h = Rn X d 92 15 LS ST M h := r_goto mt_92 dX4_isHold_11 rfl
theorem e92_14 : Rn X d 92 14 LS ST M h = Rn X d 92 15 LS (.int (zN 0) :: ST) M h := r_iconst mt_92 dX4_isHold_14 c_ic0
theorem e92_15 {v : Nat} (h0 : v < 2) : Rn X d 92 15 LS ([.int (zN v)]) M h = some (.inl (some (.int (zN v))), M, h) := s_zret mt_92 dX4_isHold_15 rfl h0
theorem e93_0 : Rn X d 93 0 (some (.int x) :: t) ST M h = Rn X d 93 1 (some (.int x) :: t) (.int x :: ST) M h := r_iload_n mt_93 dX4_requireHold_0 rfl
theorem e93_1 (hcs : Nat.ble (j_cs ST) 8 = true) : Rn X (d + 1) 93 1 LS (.int x :: ST) M h = q_k X (Rn X d 92 0 [some (.int x)] [] M (j_h0 h)) h (d + 1) 93 4 LS ST := s_callS (Or.inl rfl) mt_93 dX4_requireHold_1 cl_4_303 mt_92 rfl (Nat.le_add_left _ _) rfl rfl rfl rfl hcs
theorem e93_4 : Rn X d 93 4 LS (.int x :: ST) M h = q_eq X x (zN 0) d 93 7 18 LS ST M h := s_ifne mt_93 dX4_requireHold_4 rfl
theorem e93_7 : Rn X (d + 6) 93 7 LS [] M h = some (.inr "java/lang/IndexOutOfBoundsException", M, j_thr h) := r_throwW mt_93 dX4_requireHold_7 tl_4_310 rfl dX4_requireHold_10 dX4_requireHold_11 sr_4_312 dX4_requireHold_14 dX4_requireHold_17
theorem e93_18 : Rn X d 93 18 LS [] M h = some (.inl none, M, h) := r_vret mt_93 dX4_requireHold_18 rfl
theorem e94_0 : Rn X d 94 0 (some (.int x) :: t) ST M h = Rn X d 94 1 (some (.int x) :: t) (.int x :: ST) M h := r_iload_n mt_94 dX4_requireShip_0 rfl
theorem e94_1 : Rn X d 94 1 LS (.int x :: ST) M h = q_lt X x (zN 0) d 94 9 4 LS ST M h := s_iflt mt_94 dX4_requireShip_1 rfl
theorem e94_4 : Rn X d 94 4 (some (.int x) :: t) ST M h = Rn X d 94 5 (some (.int x) :: t) (.int x :: ST) M h := r_iload_n mt_94 dX4_requireShip_4 rfl
theorem e94_5 : Rn X d 94 5 LS ST M h = Rn X d 94 6 LS (.int (zN 2) :: ST) M h := r_iconst mt_94 dX4_requireShip_5 c_ic2
theorem e94_6 : Rn X d 94 6 LS (.int y :: .int x :: ST) M h = q_lt X x y d 94 20 9 LS ST M h := s_iclt mt_94 dX4_requireShip_6 rfl
theorem e94_9 : Rn X (d + 6) 94 9 LS [] M h = some (.inr "java/lang/IndexOutOfBoundsException", M, j_thr h) := r_throwW mt_94 dX4_requireShip_9 tl_4_310 rfl dX4_requireShip_12 dX4_requireShip_13 sr_4_315 dX4_requireShip_16 dX4_requireShip_19
theorem e94_20 : Rn X d 94 20 LS [] M h = some (.inl none, M, h) := r_vret mt_94 dX4_requireShip_20 rfl
theorem e95_0 : Rn X d 95 0 (some (.ref a) :: t) ST M h = Rn X d 95 1 (some (.ref a) :: t) (.ref a :: ST) M h := r_aload_n mt_95 dX4_requireKept_0 rfl
theorem e95_1 : Rn X d 95 1 LS (.ref a :: ST) M h = q_g X (M a) 4 0 d 95 4 LS ST M h := s_get mt_95 dX4_requireKept_1 f_4_10
theorem e95_4 : Rn X d 95 4 LS (.ref a :: ST) M h = q_g X (M a) 2 0 d 95 7 LS ST M h := s_get mt_95 dX4_requireKept_4 f_4_45
theorem e95_7 : Rn X d 95 7 (l0 :: some (.int x) :: t) ST M h = Rn X d 95 8 (l0 :: some (.int x) :: t) (.int x :: ST) M h := r_iload_n mt_95 dX4_requireKept_7 rfl
theorem e95_8 (hcs : Nat.ble (j_cs ST) 8 = true) : Rn X (d + 1) 95 8 LS (.int x :: .ref a :: ST) M h = j_rc (M a) 0 (q_k X (Rn X d 6 0 [some (.ref a), some (.int x)] [] M (j_h0 h)) h (d + 1) 95 11 LS ST) := s_callV mt_95 dX4_requireKept_8 cl_4_317 mt_6 rfl rfl (Nat.le_add_left _ _) rfl rfl rfl rfl hcs
theorem e95_11 : Rn X d 95 11 LS (.int x :: ST) M h = q_eq X x (zN 0) d 95 14 25 LS ST M h := s_ifne mt_95 dX4_requireKept_11 rfl
theorem e95_14 : Rn X (d + 6) 95 14 LS [] M h = some (.inr "java/lang/IndexOutOfBoundsException", M, j_thr h) := r_throwW mt_95 dX4_requireKept_14 tl_4_310 rfl dX4_requireKept_17 dX4_requireKept_18 sr_4_320 dX4_requireKept_21 dX4_requireKept_24
theorem e95_25 : Rn X d 95 25 LS [] M h = some (.inl none, M, h) := r_vret mt_95 dX4_requireKept_25 rfl
theorem e96_0 : Rn X d 96 0 (some (.ref a) :: t) ST M h = Rn X d 96 1 (some (.ref a) :: t) (.ref a :: ST) M h := r_aload_n mt_96 dX4_saveState_0 rfl
theorem e96_1 : Rn X d 96 1 LS (.ref a :: ST) M h = q_g X (M a) 4 2 d 96 4 LS ST M h := s_get mt_96 dX4_saveState_1 f_4_20
theorem e96_4 : Rn X d 96 4 LS ST M h = Rn X d 96 5 LS (.int (zN 4) :: ST) M h := r_iconst mt_96 dX4_saveState_4 c_ic4
theorem e96_5 : Rn X d 96 5 LS (.int y :: .int x :: ST) M h = q_lt X x y d 96 54 8 LS ST M h := s_iclt mt_96 dX4_saveState_5 rfl
theorem e96_8 : Rn X d 96 8 (some (.ref a) :: t) ST M h = Rn X d 96 9 (some (.ref a) :: t) (.ref a :: ST) M h := r_aload_n mt_96 dX4_saveState_8 rfl
theorem e96_9 : Rn X d 96 9 LS (.ref a :: ST) M h = q_g X (M a) 4 1 d 96 12 LS ST M h := s_get mt_96 dX4_saveState_9 f_4_16
theorem e96_12 : Rn X d 96 12 LS ST M h = Rn X d 96 13 LS (.int (zN 0) :: ST) M h := r_iconst mt_96 dX4_saveState_12 c_ic0
theorem e96_13 : Rn X d 96 13 LS (.int x :: .ref a :: ST) M h = q_lQ X (M a) x d 96 14 LS ST M h := s_aald mt_96 dX4_saveState_13
theorem e96_14 (ho : j_one l0 = true) : Rn X d 96 14 (l0 :: l1 :: t) (.ref a :: ST) M h = Rn X d 96 15 (l0 :: some (.ref a) :: t) ST M h := r_astore_n mt_96 dX4_saveState_14 (by show 1 < _; simp only [List.length_cons]; omega) ho rfl
theorem e96_15 : Rn X d 96 15 LS ST M h = Rn X d 96 16 LS (.int (zN 1) :: ST) M h := r_iconst mt_96 dX4_saveState_15 c_ic1
theorem e96_16 (ho : j_one l1 = true) : Rn X d 96 16 (l0 :: l1 :: l2 :: t) (.int x :: ST) M h = Rn X d 96 17 (l0 :: l1 :: some (.int x) :: t) ST M h := r_istore_n mt_96 dX4_saveState_16 (by show 2 < _; simp only [List.length_cons]; omega) ho rfl
theorem e96_17 : Rn X d 96 17 (l0 :: l1 :: some (.int x) :: t) ST M h = Rn X d 96 18 (l0 :: l1 :: some (.int x) :: t) (.int x :: ST) M h := r_iload_n mt_96 dX4_saveState_17 rfl
theorem e96_18 : Rn X d 96 18 LS ST M h = Rn X d 96 19 LS (.int (zN 4) :: ST) M h := r_iconst mt_96 dX4_saveState_18 c_ic4
theorem e96_19 : Rn X d 96 19 LS (.int y :: .int x :: ST) M h = q_le X y x d 96 42 22 LS ST M h := s_icge mt_96 dX4_saveState_19 rfl
theorem e96_22 : Rn X d 96 22 (some (.ref a) :: t) ST M h = Rn X d 96 23 (some (.ref a) :: t) (.ref a :: ST) M h := r_aload_n mt_96 dX4_saveState_22 rfl
theorem e96_23 : Rn X d 96 23 LS (.ref a :: ST) M h = q_g X (M a) 4 1 d 96 26 LS ST M h := s_get mt_96 dX4_saveState_23 f_4_16
theorem e96_26 : Rn X d 96 26 (l0 :: l1 :: some (.int x) :: t) ST M h = Rn X d 96 27 (l0 :: l1 :: some (.int x) :: t) (.int x :: ST) M h := r_iload_n mt_96 dX4_saveState_26 rfl
theorem e96_27 : Rn X d 96 27 LS ST M h = Rn X d 96 28 LS (.int (zN 1) :: ST) M h := r_iconst mt_96 dX4_saveState_27 c_ic1
theorem e96_28 : Rn X d 96 28 LS (.int y :: .int x :: ST) M h = Rn X d 96 29 LS (.int (x - y) :: ST) M h := r_isub mt_96 dX4_saveState_28
theorem e96_29 : Rn X d 96 29 (some (.ref a) :: t) ST M h = Rn X d 96 30 (some (.ref a) :: t) (.ref a :: ST) M h := r_aload_n mt_96 dX4_saveState_29 rfl
theorem e96_30 : Rn X d 96 30 LS (.ref a :: ST) M h = q_g X (M a) 4 1 d 96 33 LS ST M h := s_get mt_96 dX4_saveState_30 f_4_16
theorem e96_33 : Rn X d 96 33 (l0 :: l1 :: some (.int x) :: t) ST M h = Rn X d 96 34 (l0 :: l1 :: some (.int x) :: t) (.int x :: ST) M h := r_iload_n mt_96 dX4_saveState_33 rfl
theorem e96_34 : Rn X d 96 34 LS (.int x :: .ref a :: ST) M h = q_lQ X (M a) x d 96 35 LS ST M h := s_aald mt_96 dX4_saveState_34
theorem e96_35 : Rn X d 96 35 LS (.ref b :: .int x :: .ref a :: ST) M h = q_sQ X (M a) (M b) a x b d 96 36 LS ST M h := s_aast mt_96 dX4_saveState_35
theorem e96_36 (ho : j_one l1 = true) : Rn X d 96 36 (l0 :: l1 :: some (.int x) :: t) ST M h = Rn X d 96 39 (l0 :: l1 :: some (.int (x + (zN 1))) :: t) ST M h := r_iinc mt_96 dX4_saveState_36 rfl (by simp only [List.length_cons]; omega) ho c_ic1 rfl
theorem e96_39 : Rn X d 96 39 LS ST M h = Rn X d 96 17 LS ST M h := r_goto mt_96 dX4_saveState_39 rfl
theorem e96_42 : Rn X d 96 42 (some (.ref a) :: t) ST M h = Rn X d 96 43 (some (.ref a) :: t) (.ref a :: ST) M h := r_aload_n mt_96 dX4_saveState_42 rfl
theorem e96_43 : Rn X d 96 43 LS (.ref a :: ST) M h = q_g X (M a) 4 1 d 96 46 LS ST M h := s_get mt_96 dX4_saveState_43 f_4_16
theorem e96_46 : Rn X d 96 46 LS ST M h = Rn X d 96 47 LS (.int (zN 3) :: ST) M h := r_iconst mt_96 dX4_saveState_46 c_ic3
theorem e96_47 : Rn X d 96 47 (l0 :: some (.ref a) :: t) ST M h = Rn X d 96 48 (l0 :: some (.ref a) :: t) (.ref a :: ST) M h := r_aload_n mt_96 dX4_saveState_47 rfl
theorem e96_48 : Rn X d 96 48 LS (.ref b :: .int x :: .ref a :: ST) M h = q_sQ X (M a) (M b) a x b d 96 49 LS ST M h := s_aast mt_96 dX4_saveState_48
theorem e96_49 : Rn X d 96 49 (some (.ref a) :: t) ST M h = Rn X d 96 50 (some (.ref a) :: t) (.ref a :: ST) M h := r_aload_n mt_96 dX4_saveState_49 rfl
theorem e96_50 : Rn X d 96 50 LS ST M h = Rn X d 96 51 LS (.int (zN 3) :: ST) M h := r_iconst mt_96 dX4_saveState_50 c_ic3
theorem e96_51 : Rn X d 96 51 LS (.int x :: .ref a :: ST) M h = q_p X (M a) a 4 2 (.int x) d 96 54 LS ST M h := s_putN mt_96 dX4_saveState_51 f_4_20 rfl rfl rfl
theorem e96_54 : Rn X d 96 54 (some (.ref a) :: t) ST M h = Rn X d 96 55 (some (.ref a) :: t) (.ref a :: ST) M h := r_aload_n mt_96 dX4_saveState_54 rfl
theorem e96_55 : Rn X d 96 55 LS (.ref a :: ST) M h = q_g X (M a) 4 1 d 96 58 LS ST M h := s_get mt_96 dX4_saveState_55 f_4_16
theorem e96_58 : Rn X d 96 58 (some (.ref a) :: t) ST M h = Rn X d 96 59 (some (.ref a) :: t) (.ref a :: ST) M h := r_aload_n mt_96 dX4_saveState_58 rfl
theorem e96_59 : Rn X d 96 59 LS (.ref a :: ST) M h = q_g X (M a) 4 2 d 96 62 LS ST M h := s_get mt_96 dX4_saveState_59 f_4_20
theorem e96_62 : Rn X d 96 62 LS (.int x :: .ref a :: ST) M h = q_lQ X (M a) x d 96 63 LS ST M h := s_aald mt_96 dX4_saveState_62
theorem e96_63 : Rn X d 96 63 (some (.ref a) :: t) ST M h = Rn X d 96 64 (some (.ref a) :: t) (.ref a :: ST) M h := r_aload_n mt_96 dX4_saveState_63 rfl
theorem e96_64 : Rn X d 96 64 LS (.ref a :: ST) M h = q_g X (M a) 4 0 d 96 67 LS ST M h := s_get mt_96 dX4_saveState_64 f_4_10
theorem e96_67 (hcs : Nat.ble (j_cs ST) 8 = true) : Rn X (d + 1) 96 67 LS (.ref b :: .ref a :: ST) M h = j_rc (M a) 2 (q_k X (Rn X d 33 0 [some (.ref a), some (.ref b)] [] M (j_h0 h)) h (d + 1) 96 70 LS ST) := s_callV mt_96 dX4_saveState_67 cl_4_257 mt_33 rfl rfl (Nat.le_add_left _ _) rfl rfl rfl rfl hcs
theorem e96_70 : Rn X d 96 70 (some (.ref a) :: t) ST M h = Rn X d 96 71 (some (.ref a) :: t) (.ref a :: ST) M h := r_aload_n mt_96 dX4_saveState_70 rfl
theorem e96_71 : Rn X d 96 71 LS (.int x :: ST) M h = Rn X d 96 72 LS (.int x :: .int x :: ST) M h := r_dup mt_96 dX4_saveState_71 rfl
theorem e96_71r : Rn X d 96 71 LS (.ref a :: ST) M h = Rn X d 96 72 LS (.ref a :: .ref a :: ST) M h := r_dup mt_96 dX4_saveState_71 rfl
theorem e96_72 : Rn X d 96 72 LS (.ref a :: ST) M h = q_g X (M a) 4 2 d 96 75 LS ST M h := s_get mt_96 dX4_saveState_72 f_4_20
theorem e96_75 : Rn X d 96 75 LS ST M h = Rn X d 96 76 LS (.int (zN 1) :: ST) M h := r_iconst mt_96 dX4_saveState_75 c_ic1
theorem e96_76 : Rn X d 96 76 LS (.int y :: .int x :: ST) M h = Rn X d 96 77 LS (.int (x + y) :: ST) M h := r_iadd mt_96 dX4_saveState_76
theorem e96_77 : Rn X d 96 77 LS (.int x :: .ref a :: ST) M h = q_p X (M a) a 4 2 (.int x) d 96 80 LS ST M h := s_putN mt_96 dX4_saveState_77 f_4_20 rfl rfl rfl
theorem e96_80 : Rn X d 96 80 LS [] M h = some (.inl none, M, h) := r_vret mt_96 dX4_saveState_80 rfl
theorem e97_0 : Rn X d 97 0 (some (.ref a) :: t) ST M h = Rn X d 97 1 (some (.ref a) :: t) (.ref a :: ST) M h := r_aload_n mt_97 dX4_obeyCommand_0 rfl
theorem e97_1 : Rn X d 97 1 LS (.ref a :: ST) M h = q_g X (M a) 4 3 d 97 4 LS ST M h := s_get mt_97 dX4_obeyCommand_1 f_4_27
theorem e97_4 : Rn X d 97 4 LS (.ref a :: ST) M h = q_g X (M a) 3 3 d 97 7 LS ST M h := s_get mt_97 dX4_obeyCommand_4 f_4_322
theorem e97_7_99 : Rn X d 97 7 LS (.int (zN 99) :: ST) M h = Rn X d 97 166 LS ST M h := s_tab (off := 159) mt_97 dX4_obeyCommand_7 (by decide) (by decide) (by decide +kernel) rfl
theorem e97_7_100 : Rn X d 97 7 LS (.int (zN 100) :: ST) M h = Rn X d 97 186 LS ST M h := s_tab (off := 179) mt_97 dX4_obeyCommand_7 (by decide) (by decide) (by decide +kernel) rfl
theorem e97_7_101 : Rn X d 97 7 LS (.int (zN 101) :: ST) M h = Rn X d 97 186 LS ST M h := s_tab (off := 179) mt_97 dX4_obeyCommand_7 (by decide) (by decide) (by decide +kernel) rfl
theorem e97_7_102 : Rn X d 97 7 LS (.int (zN 102) :: ST) M h = Rn X d 97 186 LS ST M h := s_tab (off := 179) mt_97 dX4_obeyCommand_7 (by decide) (by decide) (by decide +kernel) rfl
theorem e97_7_103 : Rn X d 97 7 LS (.int (zN 103) :: ST) M h = Rn X d 97 186 LS ST M h := s_tab (off := 179) mt_97 dX4_obeyCommand_7 (by decide) (by decide) (by decide +kernel) rfl
theorem e97_7_104 : Rn X d 97 7 LS (.int (zN 104) :: ST) M h = Rn X d 97 186 LS ST M h := s_tab (off := 179) mt_97 dX4_obeyCommand_7 (by decide) (by decide) (by decide +kernel) rfl
theorem e97_7_105 : Rn X d 97 7 LS (.int (zN 105) :: ST) M h = Rn X d 97 186 LS ST M h := s_tab (off := 179) mt_97 dX4_obeyCommand_7 (by decide) (by decide) (by decide +kernel) rfl
theorem e97_7_106 : Rn X d 97 7 LS (.int (zN 106) :: ST) M h = Rn X d 97 186 LS ST M h := s_tab (off := 179) mt_97 dX4_obeyCommand_7 (by decide) (by decide) (by decide +kernel) rfl
theorem e97_7_107 : Rn X d 97 7 LS (.int (zN 107) :: ST) M h = Rn X d 97 186 LS ST M h := s_tab (off := 179) mt_97 dX4_obeyCommand_7 (by decide) (by decide) (by decide +kernel) rfl
theorem e97_7_108 : Rn X d 97 7 LS (.int (zN 108) :: ST) M h = Rn X d 97 100 LS ST M h := s_tab (off := 93) mt_97 dX4_obeyCommand_7 (by decide) (by decide) (by decide +kernel) rfl
theorem e97_7_109 : Rn X d 97 7 LS (.int (zN 109) :: ST) M h = Rn X d 97 112 LS ST M h := s_tab (off := 105) mt_97 dX4_obeyCommand_7 (by decide) (by decide) (by decide +kernel) rfl
theorem e97_7_110 : Rn X d 97 7 LS (.int (zN 110) :: ST) M h = Rn X d 97 186 LS ST M h := s_tab (off := 179) mt_97 dX4_obeyCommand_7 (by decide) (by decide) (by decide +kernel) rfl
theorem e97_7_111 : Rn X d 97 7 LS (.int (zN 111) :: ST) M h = Rn X d 97 186 LS ST M h := s_tab (off := 179) mt_97 dX4_obeyCommand_7 (by decide) (by decide) (by decide +kernel) rfl
theorem e97_7_112 : Rn X d 97 7 LS (.int (zN 112) :: ST) M h = Rn X d 97 186 LS ST M h := s_tab (off := 179) mt_97 dX4_obeyCommand_7 (by decide) (by decide) (by decide +kernel) rfl
theorem e97_7_113 : Rn X d 97 7 LS (.int (zN 113) :: ST) M h = Rn X d 97 186 LS ST M h := s_tab (off := 179) mt_97 dX4_obeyCommand_7 (by decide) (by decide) (by decide +kernel) rfl
theorem e97_7_114 : Rn X d 97 7 LS (.int (zN 114) :: ST) M h = Rn X d 97 130 LS ST M h := s_tab (off := 123) mt_97 dX4_obeyCommand_7 (by decide) (by decide) (by decide +kernel) rfl
theorem e97_7_115 : Rn X d 97 7 LS (.int (zN 115) :: ST) M h = Rn X d 97 118 LS ST M h := s_tab (off := 111) mt_97 dX4_obeyCommand_7 (by decide) (by decide) (by decide +kernel) rfl
theorem e97_7_116 : Rn X d 97 7 LS (.int (zN 116) :: ST) M h = Rn X d 97 161 LS ST M h := s_tab (off := 154) mt_97 dX4_obeyCommand_7 (by decide) (by decide) (by decide +kernel) rfl
theorem e97_7_117 : Rn X d 97 7 LS (.int (zN 117) :: ST) M h = Rn X d 97 106 LS ST M h := s_tab (off := 99) mt_97 dX4_obeyCommand_7 (by decide) (by decide) (by decide +kernel) rfl
theorem e97_7_118 : Rn X d 97 7 LS (.int (zN 118) :: ST) M h = Rn X d 97 124 LS ST M h := s_tab (off := 117) mt_97 dX4_obeyCommand_7 (by decide) (by decide) (by decide +kernel) rfl
theorem e97_7_h {v : Nat} (h0 : v < 2147483648) (h1 : 118 < v) : Rn X d 97 7 LS (.int (zN v) :: ST) M h = Rn X d 97 186 LS ST M h := s_tabD mt_97 dX4_obeyCommand_7 rfl h0 (Or.inr (by omega))
theorem e97_7_l {v : Nat} (h1 : v < 99) : Rn X d 97 7 LS (.int (zN v) :: ST) M h = Rn X d 97 186 LS ST M h := s_tabD mt_97 dX4_obeyCommand_7 rfl (by omega) (Or.inl (by omega))
theorem e97_7_m {v : Nat} (h0 : v < 2147483648) : Rn X d 97 7 LS (.int (zM v) :: ST) M h = Rn X d 97 186 LS ST M h := s_tabM mt_97 dX4_obeyCommand_7 rfl (by decide) h0
theorem e97_100 : Rn X d 97 100 (some (.ref a) :: t) ST M h = Rn X d 97 101 (some (.ref a) :: t) (.ref a :: ST) M h := r_aload_n mt_97 dX4_obeyCommand_100 rfl
theorem e97_101 : Rn X d 97 101 LS ST M h = Rn X d 97 102 LS (.int (zN 0) :: ST) M h := r_iconst mt_97 dX4_obeyCommand_101 c_ic0
theorem e97_102 (hcs : Nat.ble (j_cs ST) 8 = true) : Rn X (d + 1) 97 102 LS (.int x :: .ref a :: ST) M h = j_rc (M a) 4 (q_k X (Rn X d 98 0 [some (.ref a), some (.int x)] [] M (j_h0 h)) h (d + 1) 97 105 LS ST) := s_callV mt_97 dX4_obeyCommand_102 cl_4_325 mt_98 rfl rfl (Nat.le_add_left _ _) rfl rfl rfl rfl hcs
theorem e97_105 {v : Nat} (h0 : v < 2) : Rn X d 97 105 LS ([.int (zN v)]) M h = some (.inl (some (.int (zN v))), M, h) := s_zret mt_97 dX4_obeyCommand_105 rfl h0
theorem e97_106 : Rn X d 97 106 (some (.ref a) :: t) ST M h = Rn X d 97 107 (some (.ref a) :: t) (.ref a :: ST) M h := r_aload_n mt_97 dX4_obeyCommand_106 rfl
theorem e97_107 : Rn X d 97 107 LS ST M h = Rn X d 97 108 LS (.int (zN 1) :: ST) M h := r_iconst mt_97 dX4_obeyCommand_107 c_ic1
theorem e97_108 (hcs : Nat.ble (j_cs ST) 8 = true) : Rn X (d + 1) 97 108 LS (.int x :: .ref a :: ST) M h = j_rc (M a) 4 (q_k X (Rn X d 98 0 [some (.ref a), some (.int x)] [] M (j_h0 h)) h (d + 1) 97 111 LS ST) := s_callV mt_97 dX4_obeyCommand_108 cl_4_325 mt_98 rfl rfl (Nat.le_add_left _ _) rfl rfl rfl rfl hcs
theorem e97_111 {v : Nat} (h0 : v < 2) : Rn X d 97 111 LS ([.int (zN v)]) M h = some (.inl (some (.int (zN v))), M, h) := s_zret mt_97 dX4_obeyCommand_111 rfl h0
theorem e97_112 : Rn X d 97 112 (some (.ref a) :: t) ST M h = Rn X d 97 113 (some (.ref a) :: t) (.ref a :: ST) M h := r_aload_n mt_97 dX4_obeyCommand_112 rfl
theorem e97_113 : Rn X d 97 113 LS ST M h = Rn X d 97 114 LS (.int (zN 2) :: ST) M h := r_iconst mt_97 dX4_obeyCommand_113 c_ic2
theorem e97_114 (hcs : Nat.ble (j_cs ST) 8 = true) : Rn X (d + 1) 97 114 LS (.int x :: .ref a :: ST) M h = j_rc (M a) 4 (q_k X (Rn X d 98 0 [some (.ref a), some (.int x)] [] M (j_h0 h)) h (d + 1) 97 117 LS ST) := s_callV mt_97 dX4_obeyCommand_114 cl_4_325 mt_98 rfl rfl (Nat.le_add_left _ _) rfl rfl rfl rfl hcs
theorem e97_117 {v : Nat} (h0 : v < 2) : Rn X d 97 117 LS ([.int (zN v)]) M h = some (.inl (some (.int (zN v))), M, h) := s_zret mt_97 dX4_obeyCommand_117 rfl h0
theorem e97_118 : Rn X d 97 118 (some (.ref a) :: t) ST M h = Rn X d 97 119 (some (.ref a) :: t) (.ref a :: ST) M h := r_aload_n mt_97 dX4_obeyCommand_118 rfl
theorem e97_119 : Rn X d 97 119 LS ST M h = Rn X d 97 120 LS (.int (zN 3) :: ST) M h := r_iconst mt_97 dX4_obeyCommand_119 c_ic3
theorem e97_120 (hcs : Nat.ble (j_cs ST) 8 = true) : Rn X (d + 1) 97 120 LS (.int x :: .ref a :: ST) M h = j_rc (M a) 4 (q_k X (Rn X d 98 0 [some (.ref a), some (.int x)] [] M (j_h0 h)) h (d + 1) 97 123 LS ST) := s_callV mt_97 dX4_obeyCommand_120 cl_4_325 mt_98 rfl rfl (Nat.le_add_left _ _) rfl rfl rfl rfl hcs
theorem e97_123 {v : Nat} (h0 : v < 2) : Rn X d 97 123 LS ([.int (zN v)]) M h = some (.inl (some (.int (zN v))), M, h) := s_zret mt_97 dX4_obeyCommand_123 rfl h0
theorem e97_124 : Rn X d 97 124 (some (.ref a) :: t) ST M h = Rn X d 97 125 (some (.ref a) :: t) (.ref a :: ST) M h := r_aload_n mt_97 dX4_obeyCommand_124 rfl
theorem e97_125 : Rn X d 97 125 LS ST M h = Rn X d 97 126 LS (.int (zN 4) :: ST) M h := r_iconst mt_97 dX4_obeyCommand_125 c_ic4
theorem e97_126 (hcs : Nat.ble (j_cs ST) 8 = true) : Rn X (d + 1) 97 126 LS (.int x :: .ref a :: ST) M h = j_rc (M a) 4 (q_k X (Rn X d 98 0 [some (.ref a), some (.int x)] [] M (j_h0 h)) h (d + 1) 97 129 LS ST) := s_callV mt_97 dX4_obeyCommand_126 cl_4_325 mt_98 rfl rfl (Nat.le_add_left _ _) rfl rfl rfl rfl hcs
theorem e97_129 {v : Nat} (h0 : v < 2) : Rn X d 97 129 LS ([.int (zN v)]) M h = some (.inl (some (.int (zN v))), M, h) := s_zret mt_97 dX4_obeyCommand_129 rfl h0
theorem e97_130 : Rn X d 97 130 (some (.ref a) :: t) ST M h = Rn X d 97 131 (some (.ref a) :: t) (.ref a :: ST) M h := r_aload_n mt_97 dX4_obeyCommand_130 rfl
theorem e97_131 : Rn X d 97 131 LS (.ref a :: ST) M h = q_g X (M a) 4 0 d 97 134 LS ST M h := s_get mt_97 dX4_obeyCommand_131 f_4_10
theorem e97_134 : Rn X d 97 134 (some (.ref a) :: t) ST M h = Rn X d 97 135 (some (.ref a) :: t) (.ref a :: ST) M h := r_aload_n mt_97 dX4_obeyCommand_134 rfl
theorem e97_135 : Rn X d 97 135 LS (.ref a :: ST) M h = q_g X (M a) 4 0 d 97 138 LS ST M h := s_get mt_97 dX4_obeyCommand_135 f_4_10
theorem e97_138 : Rn X d 97 138 (some (.ref a) :: t) ST M h = Rn X d 97 139 (some (.ref a) :: t) (.ref a :: ST) M h := r_aload_n mt_97 dX4_obeyCommand_138 rfl
theorem e97_139 : Rn X d 97 139 LS (.ref a :: ST) M h = q_g X (M a) 4 3 d 97 142 LS ST M h := s_get mt_97 dX4_obeyCommand_139 f_4_27
theorem e97_142 : Rn X d 97 142 LS (.ref a :: ST) M h = q_g X (M a) 3 4 d 97 145 LS ST M h := s_get mt_97 dX4_obeyCommand_142 f_4_328
theorem e97_145 (hcs : Nat.ble (j_cs ST) 8 = true) : Rn X (d + 1) 97 145 LS (.int x :: .ref a :: ST) M h = j_rc (M a) 2 (q_k X (Rn X d 34 0 [some (.ref a), some (.int x)] [] M (j_h0 h)) h (d + 1) 97 148 LS ST) := s_callV mt_97 dX4_obeyCommand_145 cl_4_95 mt_34 rfl rfl (Nat.le_add_left _ _) rfl rfl rfl rfl hcs
theorem e97_148 : Rn X d 97 148 (some (.ref a) :: t) ST M h = Rn X d 97 149 (some (.ref a) :: t) (.ref a :: ST) M h := r_aload_n mt_97 dX4_obeyCommand_148 rfl
theorem e97_149 : Rn X d 97 149 LS (.ref a :: ST) M h = q_g X (M a) 4 3 d 97 152 LS ST M h := s_get mt_97 dX4_obeyCommand_149 f_4_27
theorem e97_152 : Rn X d 97 152 LS (.ref a :: ST) M h = q_g X (M a) 3 6 d 97 155 LS ST M h := s_get mt_97 dX4_obeyCommand_152 f_4_330
theorem e97_155 (hcs : Nat.ble (j_cs ST) 8 = true) : Rn X (d + 1) 97 155 LS (.int x :: .ref b :: .ref a :: ST) M h = j_rc (M a) 2 (q_k X (Rn X d 40 0 [some (.ref a), some (.ref b), some (.int x), none] [] M (j_h0 h)) h (d + 1) 97 158 LS ST) := s_callV mt_97 dX4_obeyCommand_155 cl_4_99 mt_40 rfl rfl (Nat.le_add_left _ _) rfl rfl rfl rfl hcs
theorem e97_158 : Rn X d 97 158 LS (.int x :: ST) M h = Rn X d 97 159 LS ST M h := r_pop mt_97 dX4_obeyCommand_158 rfl
theorem e97_159 : Rn X d 97 159 LS ST M h = Rn X d 97 160 LS (.int (zN 1) :: ST) M h := r_iconst mt_97 dX4_obeyCommand_159 c_ic1
theorem e97_160 {v : Nat} (h0 : v < 2) : Rn X d 97 160 LS ([.int (zN v)]) M h = some (.inl (some (.int (zN v))), M, h) := s_zret mt_97 dX4_obeyCommand_160 rfl h0
theorem e97_161 : Rn X d 97 161 (some (.ref a) :: t) ST M h = Rn X d 97 162 (some (.ref a) :: t) (.ref a :: ST) M h := r_aload_n mt_97 dX4_obeyCommand_161 rfl
theorem e97_162 (hcs : Nat.ble (j_cs ST) 8 = true) : Rn X (d + 1) 97 162 LS (.ref a :: ST) M h = j_rc (M a) 4 (q_k X (Rn X d 99 0 [some (.ref a), none] [] M (j_h0 h)) h (d + 1) 97 165 LS ST) := s_callV mt_97 dX4_obeyCommand_162 cl_4_333 mt_99 rfl rfl (Nat.le_add_left _ _) rfl rfl rfl rfl hcs
theorem e97_165 {v : Nat} (h0 : v < 2) : Rn X d 97 165 LS ([.int (zN v)]) M h = some (.inl (some (.int (zN v))), M, h) := s_zret mt_97 dX4_obeyCommand_165 rfl h0
theorem e97_166 : Rn X d 97 166 (some (.ref a) :: t) ST M h = Rn X d 97 167 (some (.ref a) :: t) (.ref a :: ST) M h := r_aload_n mt_97 dX4_obeyCommand_166 rfl
theorem e97_167 : Rn X d 97 167 LS (.ref a :: ST) M h = q_g X (M a) 4 0 d 97 170 LS ST M h := s_get mt_97 dX4_obeyCommand_167 f_4_10
theorem e97_170 : Rn X d 97 170 (some (.ref a) :: t) ST M h = Rn X d 97 171 (some (.ref a) :: t) (.ref a :: ST) M h := r_aload_n mt_97 dX4_obeyCommand_170 rfl
theorem e97_171 : Rn X d 97 171 LS (.ref a :: ST) M h = q_g X (M a) 4 3 d 97 174 LS ST M h := s_get mt_97 dX4_obeyCommand_171 f_4_27
theorem e97_174 : Rn X d 97 174 LS (.ref a :: ST) M h = q_g X (M a) 3 4 d 97 177 LS ST M h := s_get mt_97 dX4_obeyCommand_174 f_4_328
theorem e97_177 (hcs : Nat.ble (j_cs ST) 8 = true) : Rn X (d + 1) 97 177 LS (.int x :: .ref a :: ST) M h = j_rc (M a) 2 (q_k X (Rn X d 34 0 [some (.ref a), some (.int x)] [] M (j_h0 h)) h (d + 1) 97 180 LS ST) := s_callV mt_97 dX4_obeyCommand_177 cl_4_95 mt_34 rfl rfl (Nat.le_add_left _ _) rfl rfl rfl rfl hcs
theorem e97_180 (hcs : Nat.ble (j_cs ST) 8 = true) : Rn X (d + 1) 97 180 LS (.ref a :: ST) M h = j_rc (M a) 1 (q_k X (Rn X d 28 0 [some (.ref a), none] [] M (j_h0 h)) h (d + 1) 97 183 LS ST) := s_callV mt_97 dX4_obeyCommand_180 cl_4_115 mt_28 rfl rfl (Nat.le_add_left _ _) rfl rfl rfl rfl hcs
theorem e97_183 : Rn X d 97 183 LS (.int x :: ST) M h = Rn X d 97 184 LS ST M h := r_pop mt_97 dX4_obeyCommand_183 rfl
theorem e97_184 : Rn X d 97 184 LS ST M h = Rn X d 97 185 LS (.int (zN 1) :: ST) M h := r_iconst mt_97 dX4_obeyCommand_184 c_ic1
theorem e97_185 {v : Nat} (h0 : v < 2) : Rn X d 97 185 LS ([.int (zN v)]) M h = some (.inl (some (.int (zN v))), M, h) := s_zret mt_97 dX4_obeyCommand_185 rfl h0
theorem e97_186 : Rn X d 97 186 LS ST M h = Rn X d 97 187 LS (.int (zN 0) :: ST) M h := r_iconst mt_97 dX4_obeyCommand_186 c_ic0
theorem e97_187 {v : Nat} (h0 : v < 2) : Rn X d 97 187 LS ([.int (zN v)]) M h = some (.inl (some (.int (zN v))), M, h) := s_zret mt_97 dX4_obeyCommand_187 rfl h0
theorem e98_0 : Rn X d 98 0 (l0 :: some (.int x) :: t) ST M h = Rn X d 98 1 (l0 :: some (.int x) :: t) (.int x :: ST) M h := r_iload_n mt_98 dX4_obeyWrite_0 rfl
theorem e98_1 : Rn X d 98 1 (some (.ref a) :: t) ST M h = Rn X d 98 2 (some (.ref a) :: t) (.ref a :: ST) M h := r_aload_n mt_98 dX4_obeyWrite_1 rfl
theorem e98_2 : Rn X d 98 2 LS (.ref a :: ST) M h = q_g X (M a) 4 3 d 98 5 LS ST M h := s_get mt_98 dX4_obeyWrite_2 f_4_27
theorem e98_5 : Rn X d 98 5 LS (.ref a :: ST) M h = q_g X (M a) 3 4 d 98 8 LS ST M h := s_get mt_98 dX4_obeyWrite_5 f_4_328
theorem e98_8 : Rn X d 98 8 (some (.ref a) :: t) ST M h = Rn X d 98 9 (some (.ref a) :: t) (.ref a :: ST) M h := r_aload_n mt_98 dX4_obeyWrite_8 rfl
theorem e98_9 : Rn X d 98 9 LS (.ref a :: ST) M h = q_g X (M a) 4 3 d 98 12 LS ST M h := s_get mt_98 dX4_obeyWrite_9 f_4_27
theorem e98_12 : Rn X d 98 12 LS (.ref a :: ST) M h = q_g X (M a) 3 5 d 98 15 LS ST M h := s_get mt_98 dX4_obeyWrite_12 f_4_336
theorem e98_15 : Rn X d 98 15 (some (.ref a) :: t) ST M h = Rn X d 98 16 (some (.ref a) :: t) (.ref a :: ST) M h := r_aload_n mt_98 dX4_obeyWrite_15 rfl
theorem e98_16 : Rn X d 98 16 LS (.ref a :: ST) M h = q_g X (M a) 4 3 d 98 19 LS ST M h := s_get mt_98 dX4_obeyWrite_16 f_4_27
theorem e98_19 : Rn X d 98 19 LS (.ref a :: ST) M h = q_g X (M a) 3 6 d 98 22 LS ST M h := s_get mt_98 dX4_obeyWrite_19 f_4_330
theorem e98_22 (hcs : Nat.ble (j_cs ST) 8 = true) : Rn X (d + 1) 98 22 LS (.int w :: .int z :: .int y :: .int x :: ST) M h = q_k X (Rn X d 90 0 [some (.int x), some (.int y), some (.int z), some (.int w)] [] M (j_h0 h)) h (d + 1) 98 25 LS ST := s_callS (Or.inl rfl) mt_98 dX4_obeyWrite_22 cl_4_59 mt_90 rfl (Nat.le_add_left _ _) rfl rfl rfl rfl hcs
theorem e98_25 : Rn X d 98 25 LS (.int x :: ST) M h = q_eq X x (zN 0) d 98 41 28 LS ST M h := s_ifeq mt_98 dX4_obeyWrite_25 rfl
theorem e98_28 : Rn X d 98 28 (some (.ref a) :: t) ST M h = Rn X d 98 29 (some (.ref a) :: t) (.ref a :: ST) M h := r_aload_n mt_98 dX4_obeyWrite_28 rfl
theorem e98_29 : Rn X d 98 29 LS (.ref a :: ST) M h = q_g X (M a) 4 0 d 98 32 LS ST M h := s_get mt_98 dX4_obeyWrite_29 f_4_10
theorem e98_32 : Rn X d 98 32 LS (.ref a :: ST) M h = q_g X (M a) 2 0 d 98 35 LS ST M h := s_get mt_98 dX4_obeyWrite_32 f_4_45
theorem e98_35 (hcs : Nat.ble (j_cs ST) 8 = true) : Rn X (d + 1) 98 35 LS (.ref a :: ST) M h = j_rc (M a) 0 (q_k X (Rn X d 5 0 [some (.ref a)] [] M (j_h0 h)) h (d + 1) 98 38 LS ST) := s_callV mt_98 dX4_obeyWrite_35 cl_4_65 mt_5 rfl rfl (Nat.le_add_left _ _) rfl rfl rfl rfl hcs
theorem e98_38 : Rn X d 98 38 LS (.int x :: ST) M h = q_eq X x (zN 0) d 98 43 41 LS ST M h := s_ifeq mt_98 dX4_obeyWrite_38 rfl
theorem e98_41 : Rn X d 98 41 LS ST M h = Rn X d 98 42 LS (.int (zN 0) :: ST) M h := r_iconst mt_98 dX4_obeyWrite_41 c_ic0
theorem e98_42 {v : Nat} (h0 : v < 2) : Rn X d 98 42 LS ([.int (zN v)]) M h = some (.inl (some (.int (zN v))), M, h) := s_zret mt_98 dX4_obeyWrite_42 rfl h0
theorem e98_43 : Rn X d 98 43 (some (.ref a) :: t) ST M h = Rn X d 98 44 (some (.ref a) :: t) (.ref a :: ST) M h := r_aload_n mt_98 dX4_obeyWrite_43 rfl
theorem e98_44 : Rn X d 98 44 LS (.ref a :: ST) M h = q_g X (M a) 4 0 d 98 47 LS ST M h := s_get mt_98 dX4_obeyWrite_44 f_4_10
theorem e98_47 : Rn X d 98 47 LS (.ref a :: ST) M h = q_g X (M a) 2 0 d 98 50 LS ST M h := s_get mt_98 dX4_obeyWrite_47 f_4_45
theorem e98_50 : Rn X d 98 50 (l0 :: some (.int x) :: t) ST M h = Rn X d 98 51 (l0 :: some (.int x) :: t) (.int x :: ST) M h := r_iload_n mt_98 dX4_obeyWrite_50 rfl
theorem e98_51 : Rn X d 98 51 (some (.ref a) :: t) ST M h = Rn X d 98 52 (some (.ref a) :: t) (.ref a :: ST) M h := r_aload_n mt_98 dX4_obeyWrite_51 rfl
theorem e98_52 : Rn X d 98 52 LS (.ref a :: ST) M h = q_g X (M a) 4 3 d 98 55 LS ST M h := s_get mt_98 dX4_obeyWrite_52 f_4_27
theorem e98_55 : Rn X d 98 55 LS (.ref a :: ST) M h = q_g X (M a) 3 4 d 98 58 LS ST M h := s_get mt_98 dX4_obeyWrite_55 f_4_328
theorem e98_58 : Rn X d 98 58 (some (.ref a) :: t) ST M h = Rn X d 98 59 (some (.ref a) :: t) (.ref a :: ST) M h := r_aload_n mt_98 dX4_obeyWrite_58 rfl
theorem e98_59 : Rn X d 98 59 LS (.ref a :: ST) M h = q_g X (M a) 4 3 d 98 62 LS ST M h := s_get mt_98 dX4_obeyWrite_59 f_4_27
theorem e98_62 : Rn X d 98 62 LS (.ref a :: ST) M h = q_g X (M a) 3 5 d 98 65 LS ST M h := s_get mt_98 dX4_obeyWrite_62 f_4_336
theorem e98_65 : Rn X d 98 65 (some (.ref a) :: t) ST M h = Rn X d 98 66 (some (.ref a) :: t) (.ref a :: ST) M h := r_aload_n mt_98 dX4_obeyWrite_65 rfl
theorem e98_66 : Rn X d 98 66 LS (.ref a :: ST) M h = q_g X (M a) 4 3 d 98 69 LS ST M h := s_get mt_98 dX4_obeyWrite_66 f_4_27
theorem e98_69 : Rn X d 98 69 LS (.ref a :: ST) M h = q_g X (M a) 3 6 d 98 72 LS ST M h := s_get mt_98 dX4_obeyWrite_69 f_4_330
theorem e98_72 (hcs : Nat.ble (j_cs ST) 8 = true) : Rn X (d + 1) 98 72 LS (.int w :: .int z :: .int y :: .int x :: .ref a :: ST) M h = j_rc (M a) 0 (q_k X (Rn X d 7 0 [some (.ref a), some (.int x), some (.int y), some (.int z), some (.int w), none, none] [] M (j_h0 h)) h (d + 1) 98 75 LS ST) := s_callV mt_98 dX4_obeyWrite_72 cl_4_74 mt_7 rfl rfl (Nat.le_add_left _ _) rfl rfl rfl rfl hcs
theorem e98_75 : Rn X d 98 75 LS (.int x :: ST) M h = Rn X d 98 76 LS ST M h := r_pop mt_98 dX4_obeyWrite_75 rfl
theorem e98_76 : Rn X d 98 76 LS ST M h = Rn X d 98 77 LS (.int (zN 1) :: ST) M h := r_iconst mt_98 dX4_obeyWrite_76 c_ic1
theorem e98_77 {v : Nat} (h0 : v < 2) : Rn X d 98 77 LS ([.int (zN v)]) M h = some (.inl (some (.int (zN v))), M, h) := s_zret mt_98 dX4_obeyWrite_77 rfl h0
theorem e99_0 : Rn X d 99 0 (some (.ref a) :: t) ST M h = Rn X d 99 1 (some (.ref a) :: t) (.ref a :: ST) M h := r_aload_n mt_99 dX4_obeySnapshot_0 rfl
theorem e99_1 : Rn X d 99 1 LS (.ref a :: ST) M h = q_g X (M a) 4 0 d 99 4 LS ST M h := s_get mt_99 dX4_obeySnapshot_1 f_4_10
theorem e99_4 : Rn X d 99 4 (some (.ref a) :: t) ST M h = Rn X d 99 5 (some (.ref a) :: t) (.ref a :: ST) M h := r_aload_n mt_99 dX4_obeySnapshot_4 rfl
theorem e99_5 : Rn X d 99 5 LS (.ref a :: ST) M h = q_g X (M a) 4 3 d 99 8 LS ST M h := s_get mt_99 dX4_obeySnapshot_5 f_4_27
theorem e99_8 : Rn X d 99 8 LS (.ref a :: ST) M h = q_g X (M a) 3 4 d 99 11 LS ST M h := s_get mt_99 dX4_obeySnapshot_8 f_4_328
theorem e99_11 (hcs : Nat.ble (j_cs ST) 8 = true) : Rn X (d + 1) 99 11 LS (.int x :: .ref a :: ST) M h = j_rc (M a) 2 (q_k X (Rn X d 34 0 [some (.ref a), some (.int x)] [] M (j_h0 h)) h (d + 1) 99 14 LS ST) := s_callV mt_99 dX4_obeySnapshot_11 cl_4_95 mt_34 rfl rfl (Nat.le_add_left _ _) rfl rfl rfl rfl hcs
theorem e99_14 (ho : j_one l0 = true) : Rn X d 99 14 (l0 :: l1 :: t) (.ref a :: ST) M h = Rn X d 99 15 (l0 :: some (.ref a) :: t) ST M h := r_astore_n mt_99 dX4_obeySnapshot_14 (by show 1 < _; simp only [List.length_cons]; omega) ho rfl
theorem e99_15 : Rn X d 99 15 (l0 :: some (.ref a) :: t) ST M h = Rn X d 99 16 (l0 :: some (.ref a) :: t) (.ref a :: ST) M h := r_aload_n mt_99 dX4_obeySnapshot_15 rfl
theorem e99_16 : Rn X d 99 16 LS (.ref a :: ST) M h = q_g X (M a) 1 2 d 99 19 LS ST M h := s_get mt_99 dX4_obeySnapshot_16 f_4_103
theorem e99_19 : Rn X d 99 19 LS (.int x :: ST) M h = q_eq X x (zN 0) d 99 22 24 LS ST M h := s_ifne mt_99 dX4_obeySnapshot_19 rfl
theorem e99_22 : Rn X d 99 22 LS ST M h = Rn X d 99 23 LS (.int (zN 0) :: ST) M h := r_iconst mt_99 dX4_obeySnapshot_22 c_ic0
theorem e99_23 {v : Nat} (h0 : v < 2) : Rn X d 99 23 LS ([.int (zN v)]) M h = some (.inl (some (.int (zN v))), M, h) := s_zret mt_99 dX4_obeySnapshot_23 rfl h0
theorem e99_24 : Rn X d 99 24 (some (.ref a) :: t) ST M h = Rn X d 99 25 (some (.ref a) :: t) (.ref a :: ST) M h := r_aload_n mt_99 dX4_obeySnapshot_24 rfl
theorem e99_25 : Rn X d 99 25 LS (.ref a :: ST) M h = q_g X (M a) 4 0 d 99 28 LS ST M h := s_get mt_99 dX4_obeySnapshot_25 f_4_10
theorem e99_28 : Rn X d 99 28 (l0 :: some (.ref a) :: t) ST M h = Rn X d 99 29 (l0 :: some (.ref a) :: t) (.ref a :: ST) M h := r_aload_n mt_99 dX4_obeySnapshot_28 rfl
theorem e99_29 (hcs : Nat.ble (j_cs ST) 8 = true) : Rn X (d + 1) 99 29 LS (.ref b :: .ref a :: ST) M h = j_rc (M a) 2 (q_k X (Rn X d 42 0 [some (.ref a), some (.ref b), none] [] M (j_h0 h)) h (d + 1) 99 32 LS ST) := s_callV mt_99 dX4_obeySnapshot_29 cl_4_111 mt_42 rfl rfl (Nat.le_add_left _ _) rfl rfl rfl rfl hcs
theorem e99_32 : Rn X d 99 32 LS (.int x :: ST) M h = Rn X d 99 33 LS ST M h := r_pop mt_99 dX4_obeySnapshot_32 rfl
theorem e99_33 : Rn X d 99 33 LS ST M h = Rn X d 99 34 LS (.int (zN 1) :: ST) M h := r_iconst mt_99 dX4_obeySnapshot_33 c_ic1
theorem e99_34 {v : Nat} (h0 : v < 2) : Rn X d 99 34 LS ([.int (zN v)]) M h = some (.inl (some (.int (zN v))), M, h) := s_zret mt_99 dX4_obeySnapshot_34 rfl h0
theorem e100_0 : Rn X d 100 0 (some (.ref a) :: t) ST M h = Rn X d 100 1 (some (.ref a) :: t) (.ref a :: ST) M h := r_aload_n mt_100 dX5_init_0 rfl
theorem e100_1 (hcs : Nat.ble (j_cs ST) 8 = true) : Rn X (d + 1) 100 1 LS (.ref a :: ST) M h = Rn X (d + 1) 100 4 LS ST M h := s_obj mt_100 dX5_init_1 cl_5_1 hcs
theorem e100_4 : Rn X d 100 4 (some (.ref a) :: t) ST M h = Rn X d 100 5 (some (.ref a) :: t) (.ref a :: ST) M h := r_aload_n mt_100 dX5_init_4 rfl
theorem e100_5 : Rn X d 100 5 LS ST M h = Rn X d 100 8 LS (.int (zN 206) :: ST) M h := r_sipush mt_100 dX5_init_5 c_si206
theorem e100_8 {n v c z : Nat} (h0 : n < 1000) (h1 : v ≤ 1000) : Rn X d 100 8 LS (.int (zN v) :: ST) M (n, true, c, z) = Rn X d 100 10 LS (.ref n :: ST) (va_up M n (.inl (0, v, .inl (fun _ => 0)))) (n + 1, true, c + 1, z + v) := s_newI mt_100 dX5_init_8 h0 h1
theorem e100_10 : Rn X d 100 10 LS (.ref b :: .ref a :: ST) M h = q_p X (M a) a 5 0 (.ref b) d 100 13 LS ST M h := s_putF mt_100 dX5_init_10 f_5_7 rfl (by decide +kernel) rfl rfl
theorem e100_13 : Rn X d 100 13 (some (.ref a) :: t) ST M h = Rn X d 100 14 (some (.ref a) :: t) (.ref a :: ST) M h := r_aload_n mt_100 dX5_init_13 rfl
theorem e100_14 : Rn X d 100 14 LS ST M h = Rn X d 100 17 LS (.int (zN 824) :: ST) M h := r_sipush mt_100 dX5_init_14 c_si824
theorem e100_17 {n v c z : Nat} (h0 : n < 1000) (h1 : v ≤ 1000) : Rn X d 100 17 LS (.int (zN v) :: ST) M (n, true, c, z) = Rn X d 100 19 LS (.ref n :: ST) (va_up M n (.inl (0, v, .inl (fun _ => 0)))) (n + 1, true, c + 1, z + v) := s_newI mt_100 dX5_init_17 h0 h1
theorem e100_19 : Rn X d 100 19 LS (.ref b :: .ref a :: ST) M h = q_p X (M a) a 5 1 (.ref b) d 100 22 LS ST M h := s_putF mt_100 dX5_init_19 f_5_13 rfl (by decide +kernel) rfl rfl
theorem e100_22 : Rn X d 100 22 (some (.ref a) :: t) ST M h = Rn X d 100 23 (some (.ref a) :: t) (.ref a :: ST) M h := r_aload_n mt_100 dX5_init_22 rfl
theorem e100_23 : Rn X d 100 23 LS ST M h = Rn X d 100 26 LS (.int (zN 206) :: ST) M h := r_sipush mt_100 dX5_init_23 c_si206
theorem e100_26 {n v c z : Nat} (h0 : n < 1000) (h1 : v ≤ 1000) : Rn X d 100 26 LS (.int (zN v) :: ST) M (n, true, c, z) = Rn X d 100 28 LS (.ref n :: ST) (va_up M n (.inl (0, v, .inl (fun _ => 0)))) (n + 1, true, c + 1, z + v) := s_newI mt_100 dX5_init_26 h0 h1
theorem e100_28 : Rn X d 100 28 LS (.ref b :: .ref a :: ST) M h = q_p X (M a) a 5 3 (.ref b) d 100 31 LS ST M h := s_putF mt_100 dX5_init_28 f_5_16 rfl (by decide +kernel) rfl rfl
theorem e100_31 : Rn X d 100 31 (some (.ref a) :: t) ST M h = Rn X d 100 32 (some (.ref a) :: t) (.ref a :: ST) M h := r_aload_n mt_100 dX5_init_31 rfl
theorem e100_32 : Rn X d 100 32 LS ST M h = Rn X d 100 34 LS (.int (zN 100) :: ST) M h := r_bipush mt_100 dX5_init_32 c_bi100
theorem e100_34 {n v c z : Nat} (h0 : n < 1000) (h1 : v ≤ 1000) : Rn X d 100 34 LS (.int (zN v) :: ST) M (n, true, c, z) = Rn X d 100 36 LS (.ref n :: ST) (va_up M n (.inl (0, v, .inl (fun _ => 0)))) (n + 1, true, c + 1, z + v) := s_newI mt_100 dX5_init_34 h0 h1
theorem e100_36 : Rn X d 100 36 LS (.ref b :: .ref a :: ST) M h = q_p X (M a) a 5 4 (.ref b) d 100 39 LS ST M h := s_putF mt_100 dX5_init_36 f_5_19 rfl (by decide +kernel) rfl rfl
theorem e100_39 : Rn X d 100 39 (some (.ref a) :: t) ST M h = Rn X d 100 40 (some (.ref a) :: t) (.ref a :: ST) M h := r_aload_n mt_100 dX5_init_39 rfl
theorem e100_40 : Rn X d 100 40 LS ST M h = Rn X d 100 42 LS (.int (zN 8) :: ST) M h := r_bipush mt_100 dX5_init_40 c_bi8
theorem e100_42 {n v c z : Nat} (h0 : n < 1000) (h1 : v ≤ 1000) : Rn X d 100 42 LS (.int (zN v) :: ST) M (n, true, c, z) = Rn X d 100 44 LS (.ref n :: ST) (va_up M n (.inl (0, v, .inl (fun _ => 0)))) (n + 1, true, c + 1, z + v) := s_newI mt_100 dX5_init_42 h0 h1
theorem e100_44 : Rn X d 100 44 LS (.ref b :: .ref a :: ST) M h = q_p X (M a) a 5 6 (.ref b) d 100 47 LS ST M h := s_putF mt_100 dX5_init_44 f_5_22 rfl (by decide +kernel) rfl rfl
theorem e100_47 : Rn X d 100 47 (some (.ref a) :: t) ST M h = Rn X d 100 48 (some (.ref a) :: t) (.ref a :: ST) M h := r_aload_n mt_100 dX5_init_47 rfl
theorem e100_48 : Rn X d 100 48 LS ST M h = Rn X d 100 50 LS (.int (zN 8) :: ST) M h := r_bipush mt_100 dX5_init_48 c_bi8
theorem e100_50 (hcs : Nat.ble (j_cs ST) 8 = true) : Rn X (d + 1) 100 50 LS (.int x :: .ref a :: ST) M h = j_rc (M a) 5 (q_k X (Rn X d 105 0 [some (.ref a), some (.int x), none] [] M (j_h0 h)) h (d + 1) 100 53 LS ST) := s_callV mt_100 dX5_init_50 cl_5_25 mt_105 rfl rfl (Nat.le_add_left _ _) rfl rfl rfl rfl hcs
theorem e100_53 : Rn X d 100 53 LS [] M h = some (.inl none, M, h) := r_vret mt_100 dX5_init_53 rfl
theorem e101_0 : Rn X d 101 0 (some (.ref a) :: t) ST M h = Rn X d 101 1 (some (.ref a) :: t) (.ref a :: ST) M h := r_aload_n mt_101 dX5_thrown_0 rfl
theorem e101_1 : Rn X d 101 1 LS (.ref a :: ST) M h = q_g X (M a) 5 7 d 101 4 LS ST M h := s_get mt_101 dX5_thrown_1 f_5_29
theorem e101_4 : Rn X d 101 4 LS ([.int x]) M h = some (.inl (some (.int x)), M, h) := r_iret mt_101 dX5_thrown_4 rfl
theorem e102_0 : Rn X d 102 0 (some (.ref a) :: t) ST M h = Rn X d 102 1 (some (.ref a) :: t) (.ref a :: ST) M h := r_aload_n mt_102 dX5_fails_0 rfl
theorem e102_1 : Rn X d 102 1 (l0 :: some (.int x) :: t) ST M h = Rn X d 102 2 (l0 :: some (.int x) :: t) (.int x :: ST) M h := r_iload_n mt_102 dX5_fails_1 rfl
theorem e102_2 : Rn X d 102 2 LS (.int x :: .ref a :: ST) M h = q_p X (M a) a 5 7 (.int x) d 102 5 LS ST M h := s_putN mt_102 dX5_fails_2 f_5_29 rfl rfl rfl
theorem e102_5 : Rn X d 102 5 LS ST M h = Rn X d 102 6 LS (.int (zN 0) :: ST) M h := r_iconst mt_102 dX5_fails_5 c_ic0
theorem e102_6 : Rn X d 102 6 LS ([.int x]) M h = some (.inl (some (.int x)), M, h) := r_iret mt_102 dX5_fails_6 rfl
theorem e103_0 : Rn X d 103 0 (some (.ref a) :: t) ST M h = Rn X d 103 1 (some (.ref a) :: t) (.ref a :: ST) M h := r_aload_n mt_103 dX5_well_0 rfl
theorem e103_1 : Rn X d 103 1 LS ST M h = Rn X d 103 2 LS (.int (zN 0) :: ST) M h := r_iconst mt_103 dX5_well_1 c_ic0
theorem e103_2 : Rn X d 103 2 LS (.int x :: .ref a :: ST) M h = q_p X (M a) a 5 7 (.int x) d 103 5 LS ST M h := s_putN mt_103 dX5_well_2 f_5_29 rfl rfl rfl
theorem e103_5 : Rn X d 103 5 (l0 :: some (.int x) :: t) ST M h = Rn X d 103 6 (l0 :: some (.int x) :: t) (.int x :: ST) M h := r_iload_n mt_103 dX5_well_5 rfl
theorem e103_6 : Rn X d 103 6 LS ([.int x]) M h = some (.inl (some (.int x)), M, h) := r_iret mt_103 dX5_well_6 rfl
theorem e104_0 : Rn X d 104 0 (some (.int x) :: t) ST M h = Rn X d 104 1 (some (.int x) :: t) (.int x :: ST) M h := r_iload_n mt_104 dX5_in_0 rfl
theorem e104_1 : Rn X d 104 1 (l0 :: some (.int x) :: t) ST M h = Rn X d 104 2 (l0 :: some (.int x) :: t) (.int x :: ST) M h := r_iload_n mt_104 dX5_in_1 rfl
theorem e104_2 : Rn X d 104 2 LS (.int y :: .int x :: ST) M h = q_lt X x y d 104 14 5 LS ST M h := s_iclt mt_104 dX5_in_2 rfl
theorem e104_5 : Rn X d 104 5 (some (.int x) :: t) ST M h = Rn X d 104 6 (some (.int x) :: t) (.int x :: ST) M h := r_iload_n mt_104 dX5_in_5 rfl
theorem e104_6 : Rn X d 104 6 (l0 :: l1 :: some (.int x) :: t) ST M h = Rn X d 104 7 (l0 :: l1 :: some (.int x) :: t) (.int x :: ST) M h := r_iload_n mt_104 dX5_in_6 rfl
theorem e104_7 : Rn X d 104 7 LS (.int y :: .int x :: ST) M h = q_lt X y x d 104 14 10 LS ST M h := s_icgt mt_104 dX5_in_7 rfl
theorem e104_10 : Rn X d 104 10 LS ST M h = Rn X d 104 11 LS (.int (zN 1) :: ST) M h := r_iconst mt_104 dX5_in_10 c_ic1
theorem e104_11 : Rn X d 104 11 LS ST M h = Rn X d 104 15 LS ST M h := r_goto mt_104 dX5_in_11 rfl
theorem e104_14 : Rn X d 104 14 LS ST M h = Rn X d 104 15 LS (.int (zN 0) :: ST) M h := r_iconst mt_104 dX5_in_14 c_ic0
theorem e104_15 {v : Nat} (h0 : v < 2) : Rn X d 104 15 LS ([.int (zN v)]) M h = some (.inl (some (.int (zN v))), M, h) := s_zret mt_104 dX5_in_15 rfl h0
theorem e105_0 : Rn X d 105 0 LS ST M h = Rn X d 105 1 LS (.int (zN 0) :: ST) M h := r_iconst mt_105 dX5_fresh_0 c_ic0
theorem e105_1 (ho : j_one l1 = true) : Rn X d 105 1 (l0 :: l1 :: l2 :: t) (.int x :: ST) M h = Rn X d 105 2 (l0 :: l1 :: some (.int x) :: t) ST M h := r_istore_n mt_105 dX5_fresh_1 (by show 2 < _; simp only [List.length_cons]; omega) ho rfl
theorem e105_2 : Rn X d 105 2 (l0 :: l1 :: some (.int x) :: t) ST M h = Rn X d 105 3 (l0 :: l1 :: some (.int x) :: t) (.int x :: ST) M h := r_iload_n mt_105 dX5_fresh_2 rfl
theorem e105_3 : Rn X d 105 3 LS ST M h = Rn X d 105 6 LS (.int (zN 206) :: ST) M h := r_sipush mt_105 dX5_fresh_3 c_si206
theorem e105_6 : Rn X d 105 6 LS (.int y :: .int x :: ST) M h = q_le X y x d 105 22 9 LS ST M h := s_icge mt_105 dX5_fresh_6 rfl
theorem e105_9 : Rn X d 105 9 (some (.ref a) :: t) ST M h = Rn X d 105 10 (some (.ref a) :: t) (.ref a :: ST) M h := r_aload_n mt_105 dX5_fresh_9 rfl
theorem e105_10 : Rn X d 105 10 LS (.ref a :: ST) M h = q_g X (M a) 5 0 d 105 13 LS ST M h := s_get mt_105 dX5_fresh_10 f_5_7
theorem e105_13 : Rn X d 105 13 (l0 :: l1 :: some (.int x) :: t) ST M h = Rn X d 105 14 (l0 :: l1 :: some (.int x) :: t) (.int x :: ST) M h := r_iload_n mt_105 dX5_fresh_13 rfl
theorem e105_14 : Rn X d 105 14 LS ST M h = Rn X d 105 15 LS (.int (zN 0) :: ST) M h := r_iconst mt_105 dX5_fresh_14 c_ic0
theorem e105_15 : Rn X d 105 15 LS (.int y :: .int x :: .ref a :: ST) M h = q_st X (M a) a x y d 105 16 LS ST M h := s_iast mt_105 dX5_fresh_15
theorem e105_16 (ho : j_one l1 = true) : Rn X d 105 16 (l0 :: l1 :: some (.int x) :: t) ST M h = Rn X d 105 19 (l0 :: l1 :: some (.int (x + (zN 1))) :: t) ST M h := r_iinc mt_105 dX5_fresh_16 rfl (by simp only [List.length_cons]; omega) ho c_ic1 rfl
theorem e105_19 : Rn X d 105 19 LS ST M h = Rn X d 105 2 LS ST M h := r_goto mt_105 dX5_fresh_19 rfl
theorem e105_22 : Rn X d 105 22 (some (.ref a) :: t) ST M h = Rn X d 105 23 (some (.ref a) :: t) (.ref a :: ST) M h := r_aload_n mt_105 dX5_fresh_22 rfl
theorem e105_23 : Rn X d 105 23 LS (.ref a :: ST) M h = q_g X (M a) 5 0 d 105 26 LS ST M h := s_get mt_105 dX5_fresh_23 f_5_7
theorem e105_26 : Rn X d 105 26 LS ST M h = Rn X d 105 27 LS (.int (zN 0) :: ST) M h := r_iconst mt_105 dX5_fresh_26 c_ic0
theorem e105_27 : Rn X d 105 27 (l0 :: some (.int x) :: t) ST M h = Rn X d 105 28 (l0 :: some (.int x) :: t) (.int x :: ST) M h := r_iload_n mt_105 dX5_fresh_27 rfl
theorem e105_28 : Rn X d 105 28 LS (.int y :: .int x :: .ref a :: ST) M h = q_st X (M a) a x y d 105 29 LS ST M h := s_iast mt_105 dX5_fresh_28
theorem e105_29 : Rn X d 105 29 (some (.ref a) :: t) ST M h = Rn X d 105 30 (some (.ref a) :: t) (.ref a :: ST) M h := r_aload_n mt_105 dX5_fresh_29 rfl
theorem e105_30 : Rn X d 105 30 LS (.ref a :: ST) M h = q_g X (M a) 5 0 d 105 33 LS ST M h := s_get mt_105 dX5_fresh_30 f_5_7
theorem e105_33 : Rn X d 105 33 LS ST M h = Rn X d 105 36 LS (.int (zN 165) :: ST) M h := r_sipush mt_105 dX5_fresh_33 c_si165
theorem e105_36 : Rn X d 105 36 LS ST M h = Rn X d 105 37 LS (.int (zN 1) :: ST) M h := r_iconst mt_105 dX5_fresh_36 c_ic1
theorem e105_37 : Rn X d 105 37 LS (.int y :: .int x :: .ref a :: ST) M h = q_st X (M a) a x y d 105 38 LS ST M h := s_iast mt_105 dX5_fresh_37
theorem e105_38 : Rn X d 105 38 (some (.ref a) :: t) ST M h = Rn X d 105 39 (some (.ref a) :: t) (.ref a :: ST) M h := r_aload_n mt_105 dX5_fresh_38 rfl
theorem e105_39 : Rn X d 105 39 LS (.ref a :: ST) M h = q_g X (M a) 5 0 d 105 42 LS ST M h := s_get mt_105 dX5_fresh_39 f_5_7
theorem e105_42 : Rn X d 105 42 LS ST M h = Rn X d 105 45 LS (.int (zN 186) :: ST) M h := r_sipush mt_105 dX5_fresh_42 c_si186
theorem e105_45 : Rn X d 105 45 LS ST M h = Rn X d 105 46 LS (.int (zN 1) :: ST) M h := r_iconst mt_105 dX5_fresh_45 c_ic1
theorem e105_46 : Rn X d 105 46 LS (.int y :: .int x :: .ref a :: ST) M h = q_st X (M a) a x y d 105 47 LS ST M h := s_iast mt_105 dX5_fresh_46
theorem e105_47 : Rn X d 105 47 LS [] M h = some (.inl none, M, h) := r_vret mt_105 dX5_fresh_47 rfl
theorem e106_0 : Rn X d 106 0 (some (.ref a) :: t) ST M h = Rn X d 106 1 (some (.ref a) :: t) (.ref a :: ST) M h := r_aload_n mt_106 dX5_of_0 rfl
theorem e106_1 : Rn X d 106 1 LS (.ref a :: ST) M h = q_g X (M a) 5 0 d 106 4 LS ST M h := s_get mt_106 dX5_of_1 f_5_7
theorem e106_4 : Rn X d 106 4 LS ST M h = Rn X d 106 7 LS (.int (zN 164) :: ST) M h := r_sipush mt_106 dX5_of_4 c_si164
theorem e106_7 : Rn X d 106 7 LS ST M h = Rn X d 106 9 LS (.int (zN 21) :: ST) M h := r_bipush mt_106 dX5_of_7 c_bi21
theorem e106_9 : Rn X d 106 9 (l0 :: some (.int x) :: t) ST M h = Rn X d 106 10 (l0 :: some (.int x) :: t) (.int x :: ST) M h := r_iload_n mt_106 dX5_of_9 rfl
theorem e106_10 : Rn X d 106 10 LS (.int y :: .int x :: ST) M h = Rn X d 106 11 LS (.int (x * y) :: ST) M h := r_imul mt_106 dX5_of_10
theorem e106_11 : Rn X d 106 11 LS (.int y :: .int x :: ST) M h = Rn X d 106 12 LS (.int (x + y) :: ST) M h := r_iadd mt_106 dX5_of_11
theorem e106_12 : Rn X d 106 12 (l0 :: l1 :: some (.int x) :: t) ST M h = Rn X d 106 13 (l0 :: l1 :: some (.int x) :: t) (.int x :: ST) M h := r_iload_n mt_106 dX5_of_12 rfl
theorem e106_13 : Rn X d 106 13 LS (.int y :: .int x :: ST) M h = Rn X d 106 14 LS (.int (x + y) :: ST) M h := r_iadd mt_106 dX5_of_13
theorem e106_14 : Rn X d 106 14 LS (.int x :: .ref a :: ST) M h = q_ld X (M a) a x d 106 15 LS ST M h := s_iald mt_106 dX5_of_14
theorem e106_15 : Rn X d 106 15 LS ([.int x]) M h = some (.inl (some (.int x)), M, h) := r_iret mt_106 dX5_of_15 rfl
theorem e107_0 : Rn X d 107 0 (some (.ref a) :: t) ST M h = Rn X d 107 1 (some (.ref a) :: t) (.ref a :: ST) M h := r_aload_n mt_107 dX5_puts_0 rfl
theorem e107_1 : Rn X d 107 1 LS (.ref a :: ST) M h = q_g X (M a) 5 0 d 107 4 LS ST M h := s_get mt_107 dX5_puts_1 f_5_7
theorem e107_4 : Rn X d 107 4 LS ST M h = Rn X d 107 7 LS (.int (zN 164) :: ST) M h := r_sipush mt_107 dX5_puts_4 c_si164
theorem e107_7 : Rn X d 107 7 LS ST M h = Rn X d 107 9 LS (.int (zN 21) :: ST) M h := r_bipush mt_107 dX5_puts_7 c_bi21
theorem e107_9 : Rn X d 107 9 (l0 :: some (.int x) :: t) ST M h = Rn X d 107 10 (l0 :: some (.int x) :: t) (.int x :: ST) M h := r_iload_n mt_107 dX5_puts_9 rfl
theorem e107_10 : Rn X d 107 10 LS (.int y :: .int x :: ST) M h = Rn X d 107 11 LS (.int (x * y) :: ST) M h := r_imul mt_107 dX5_puts_10
theorem e107_11 : Rn X d 107 11 LS (.int y :: .int x :: ST) M h = Rn X d 107 12 LS (.int (x + y) :: ST) M h := r_iadd mt_107 dX5_puts_11
theorem e107_12 : Rn X d 107 12 (l0 :: l1 :: some (.int x) :: t) ST M h = Rn X d 107 13 (l0 :: l1 :: some (.int x) :: t) (.int x :: ST) M h := r_iload_n mt_107 dX5_puts_12 rfl
theorem e107_13 : Rn X d 107 13 LS (.int y :: .int x :: ST) M h = Rn X d 107 14 LS (.int (x + y) :: ST) M h := r_iadd mt_107 dX5_puts_13
theorem e107_14 : Rn X d 107 14 (l0 :: l1 :: l2 :: some (.int x) :: t) ST M h = Rn X d 107 15 (l0 :: l1 :: l2 :: some (.int x) :: t) (.int x :: ST) M h := r_iload_n mt_107 dX5_puts_14 rfl
theorem e107_15 : Rn X d 107 15 LS (.int y :: .int x :: .ref a :: ST) M h = q_st X (M a) a x y d 107 16 LS ST M h := s_iast mt_107 dX5_puts_15
theorem e107_16 : Rn X d 107 16 LS [] M h = some (.inl none, M, h) := r_vret mt_107 dX5_puts_16 rfl
theorem e108_0 : Rn X d 108 0 (some (.ref a) :: t) ST M h = Rn X d 108 1 (some (.ref a) :: t) (.ref a :: ST) M h := r_aload_n mt_108 dX5_told_0 rfl
theorem e108_1 : Rn X d 108 1 LS (.ref a :: ST) M h = q_g X (M a) 5 0 d 108 4 LS ST M h := s_get mt_108 dX5_told_1 f_5_7
theorem e108_4 : Rn X d 108 4 LS ST M h = Rn X d 108 5 LS (.int (zN 4) :: ST) M h := r_iconst mt_108 dX5_told_4 c_ic4
theorem e108_5 : Rn X d 108 5 LS ST M h = Rn X d 108 6 LS (.int (zN 5) :: ST) M h := r_iconst mt_108 dX5_told_5 c_ic5
theorem e108_6 : Rn X d 108 6 (l0 :: some (.int x) :: t) ST M h = Rn X d 108 7 (l0 :: some (.int x) :: t) (.int x :: ST) M h := r_iload_n mt_108 dX5_told_6 rfl
theorem e108_7 : Rn X d 108 7 LS ST M h = Rn X d 108 9 LS (.int (zN 32) :: ST) M h := r_bipush mt_108 dX5_told_7 c_bi32
theorem e108_9 : Rn X d 108 9 LS (.int y :: .int x :: ST) M h = q_rm X x y d 108 10 LS ST M h := s_irem mt_108 dX5_told_9
theorem e108_10 : Rn X d 108 10 LS (.int y :: .int x :: ST) M h = Rn X d 108 11 LS (.int (x * y) :: ST) M h := r_imul mt_108 dX5_told_10
theorem e108_11 : Rn X d 108 11 LS (.int y :: .int x :: ST) M h = Rn X d 108 12 LS (.int (x + y) :: ST) M h := r_iadd mt_108 dX5_told_11
theorem e108_12 : Rn X d 108 12 (l0 :: l1 :: some (.int x) :: t) ST M h = Rn X d 108 13 (l0 :: l1 :: some (.int x) :: t) (.int x :: ST) M h := r_iload_n mt_108 dX5_told_12 rfl
theorem e108_13 : Rn X d 108 13 LS (.int y :: .int x :: ST) M h = Rn X d 108 14 LS (.int (x + y) :: ST) M h := r_iadd mt_108 dX5_told_13
theorem e108_14 : Rn X d 108 14 LS (.int x :: .ref a :: ST) M h = q_ld X (M a) a x d 108 15 LS ST M h := s_iald mt_108 dX5_told_14
theorem e108_15 : Rn X d 108 15 LS ([.int x]) M h = some (.inl (some (.int x)), M, h) := r_iret mt_108 dX5_told_15 rfl
theorem e109_0 : Rn X d 109 0 (some (.ref a) :: t) ST M h = Rn X d 109 1 (some (.ref a) :: t) (.ref a :: ST) M h := r_aload_n mt_109 dX5_tells_0 rfl
theorem e109_1 : Rn X d 109 1 LS (.ref a :: ST) M h = q_g X (M a) 5 0 d 109 4 LS ST M h := s_get mt_109 dX5_tells_1 f_5_7
theorem e109_4 : Rn X d 109 4 LS ST M h = Rn X d 109 5 LS (.int (zN 4) :: ST) M h := r_iconst mt_109 dX5_tells_4 c_ic4
theorem e109_5 : Rn X d 109 5 LS ST M h = Rn X d 109 6 LS (.int (zN 5) :: ST) M h := r_iconst mt_109 dX5_tells_5 c_ic5
theorem e109_6 : Rn X d 109 6 (l0 :: some (.int x) :: t) ST M h = Rn X d 109 7 (l0 :: some (.int x) :: t) (.int x :: ST) M h := r_iload_n mt_109 dX5_tells_6 rfl
theorem e109_7 : Rn X d 109 7 LS ST M h = Rn X d 109 9 LS (.int (zN 32) :: ST) M h := r_bipush mt_109 dX5_tells_7 c_bi32
theorem e109_9 : Rn X d 109 9 LS (.int y :: .int x :: ST) M h = q_rm X x y d 109 10 LS ST M h := s_irem mt_109 dX5_tells_9
theorem e109_10 : Rn X d 109 10 LS (.int y :: .int x :: ST) M h = Rn X d 109 11 LS (.int (x * y) :: ST) M h := r_imul mt_109 dX5_tells_10
theorem e109_11 : Rn X d 109 11 LS (.int y :: .int x :: ST) M h = Rn X d 109 12 LS (.int (x + y) :: ST) M h := r_iadd mt_109 dX5_tells_11
theorem e109_12 : Rn X d 109 12 (l0 :: l1 :: some (.int x) :: t) ST M h = Rn X d 109 13 (l0 :: l1 :: some (.int x) :: t) (.int x :: ST) M h := r_iload_n mt_109 dX5_tells_12 rfl
theorem e109_13 : Rn X d 109 13 LS (.int y :: .int x :: ST) M h = Rn X d 109 14 LS (.int (x + y) :: ST) M h := r_iadd mt_109 dX5_tells_13
theorem e109_14 : Rn X d 109 14 (l0 :: l1 :: l2 :: some (.int x) :: t) ST M h = Rn X d 109 15 (l0 :: l1 :: l2 :: some (.int x) :: t) (.int x :: ST) M h := r_iload_n mt_109 dX5_tells_14 rfl
theorem e109_15 : Rn X d 109 15 LS (.int y :: .int x :: .ref a :: ST) M h = q_st X (M a) a x y d 109 16 LS ST M h := s_iast mt_109 dX5_tells_15
theorem e109_16 : Rn X d 109 16 LS [] M h = some (.inl none, M, h) := r_vret mt_109 dX5_tells_16 rfl
theorem e110_0 : Rn X d 110 0 (some (.int x) :: t) ST M h = Rn X d 110 1 (some (.int x) :: t) (.int x :: ST) M h := r_iload_n mt_110 dX5_isShip_0 rfl
theorem e110_1 : Rn X d 110 1 LS ST M h = Rn X d 110 2 LS (.int (zN 0) :: ST) M h := r_iconst mt_110 dX5_isShip_1 c_ic0
theorem e110_2 : Rn X d 110 2 LS ST M h = Rn X d 110 3 LS (.int (zN 1) :: ST) M h := r_iconst mt_110 dX5_isShip_2 c_ic1
theorem e110_3 (hcs : Nat.ble (j_cs ST) 8 = true) : Rn X (d + 1) 110 3 LS (.int z :: .int y :: .int x :: ST) M h = q_k X (Rn X d 104 0 [some (.int x), some (.int y), some (.int z)] [] M (j_h0 h)) h (d + 1) 110 6 LS ST := s_callS (Or.inl rfl) mt_110 dX5_isShip_3 cl_5_33 mt_104 rfl (Nat.le_add_left _ _) rfl rfl rfl rfl hcs
theorem e110_6 {v : Nat} (h0 : v < 2) : Rn X d 110 6 LS ([.int (zN v)]) M h = some (.inl (some (.int (zN v))), M, h) := s_zret mt_110 dX5_isShip_6 rfl h0
theorem e111_0 : Rn X d 111 0 (l0 :: some (.int x) :: t) ST M h = Rn X d 111 1 (l0 :: some (.int x) :: t) (.int x :: ST) M h := r_iload_n mt_111 dX5_isKept_0 rfl
theorem e111_1 : Rn X d 111 1 (some (.ref a) :: t) ST M h = Rn X d 111 2 (some (.ref a) :: t) (.ref a :: ST) M h := r_aload_n mt_111 dX5_isKept_1 rfl
theorem e111_2 : Rn X d 111 2 LS (.ref a :: ST) M h = q_g X (M a) 5 0 d 111 5 LS ST M h := s_get mt_111 dX5_isKept_2 f_5_7
theorem e111_5 : Rn X d 111 5 LS ST M h = Rn X d 111 6 LS (.int (zN 1) :: ST) M h := r_iconst mt_111 dX5_isKept_5 c_ic1
theorem e111_6 : Rn X d 111 6 LS (.int x :: .ref a :: ST) M h = q_ld X (M a) a x d 111 7 LS ST M h := s_iald mt_111 dX5_isKept_6
theorem e111_7 : Rn X d 111 7 (some (.ref a) :: t) ST M h = Rn X d 111 8 (some (.ref a) :: t) (.ref a :: ST) M h := r_aload_n mt_111 dX5_isKept_7 rfl
theorem e111_8 : Rn X d 111 8 LS (.ref a :: ST) M h = q_g X (M a) 5 0 d 111 11 LS ST M h := s_get mt_111 dX5_isKept_8 f_5_7
theorem e111_11 : Rn X d 111 11 LS ST M h = Rn X d 111 12 LS (.int (zN 2) :: ST) M h := r_iconst mt_111 dX5_isKept_11 c_ic2
theorem e111_12 : Rn X d 111 12 LS (.int x :: .ref a :: ST) M h = q_ld X (M a) a x d 111 13 LS ST M h := s_iald mt_111 dX5_isKept_12
theorem e111_13 : Rn X d 111 13 LS ST M h = Rn X d 111 14 LS (.int (zN 1) :: ST) M h := r_iconst mt_111 dX5_isKept_13 c_ic1
theorem e111_14 : Rn X d 111 14 LS (.int y :: .int x :: ST) M h = Rn X d 111 15 LS (.int (x - y) :: ST) M h := r_isub mt_111 dX5_isKept_14
theorem e111_15 (hcs : Nat.ble (j_cs ST) 8 = true) : Rn X (d + 1) 111 15 LS (.int z :: .int y :: .int x :: ST) M h = q_k X (Rn X d 104 0 [some (.int x), some (.int y), some (.int z)] [] M (j_h0 h)) h (d + 1) 111 18 LS ST := s_callS (Or.inl rfl) mt_111 dX5_isKept_15 cl_5_33 mt_104 rfl (Nat.le_add_left _ _) rfl rfl rfl rfl hcs
theorem e111_18 {v : Nat} (h0 : v < 2) : Rn X d 111 18 LS ([.int (zN v)]) M h = some (.inl (some (.int (zN v))), M, h) := s_zret mt_111 dX5_isKept_18 rfl h0
theorem e112_0 : Rn X d 112 0 (some (.ref a) :: t) ST M h = Rn X d 112 1 (some (.ref a) :: t) (.ref a :: ST) M h := r_aload_n mt_112 dX5_isReadable_0 rfl
theorem e112_1 : Rn X d 112 1 (l0 :: some (.int x) :: t) ST M h = Rn X d 112 2 (l0 :: some (.int x) :: t) (.int x :: ST) M h := r_iload_n mt_112 dX5_isReadable_1 rfl
theorem e112_2 : Rn X d 112 2 LS ST M h = Rn X d 112 3 LS (.int (zN 4) :: ST) M h := r_iconst mt_112 dX5_isReadable_2 c_ic4
theorem e112_3 (hcs : Nat.ble (j_cs ST) 8 = true) : Rn X (d + 1) 112 3 LS (.int y :: .int x :: .ref a :: ST) M h = j_rc (M a) 5 (q_k X (Rn X d 108 0 [some (.ref a), some (.int x), some (.int y)] [] M (j_h0 h)) h (d + 1) 112 6 LS ST) := s_callV mt_112 dX5_isReadable_3 cl_5_37 mt_108 rfl rfl (Nat.le_add_left _ _) rfl rfl rfl rfl hcs
theorem e112_6 : Rn X d 112 6 LS ST M h = Rn X d 112 7 LS (.int (zN 3) :: ST) M h := r_iconst mt_112 dX5_isReadable_6 c_ic3
theorem e112_7 : Rn X d 112 7 LS (.int y :: .int x :: ST) M h = q_eq X x y d 112 14 10 LS ST M h := s_iceq mt_112 dX5_isReadable_7 rfl
theorem e112_10 : Rn X d 112 10 LS ST M h = Rn X d 112 11 LS (.int (zN 1) :: ST) M h := r_iconst mt_112 dX5_isReadable_10 c_ic1
theorem e112_11 : Rn X d 112 11 LS ST M h = Rn X d 112 15 LS ST M h := r_goto mt_112 dX5_isReadable_11 rfl
theorem e112_14 : Rn X d 112 14 LS ST M h = Rn X d 112 15 LS (.int (zN 0) :: ST) M h := r_iconst mt_112 dX5_isReadable_14 c_ic0
theorem e112_15 {v : Nat} (h0 : v < 2) : Rn X d 112 15 LS ([.int (zN v)]) M h = some (.inl (some (.int (zN v))), M, h) := s_zret mt_112 dX5_isReadable_15 rfl h0
theorem e113_0 : Rn X d 113 0 (some (.ref a) :: t) ST M h = Rn X d 113 1 (some (.ref a) :: t) (.ref a :: ST) M h := r_aload_n mt_113 dX5_many_0 rfl
theorem e113_1 : Rn X d 113 1 LS (.ref a :: ST) M h = q_g X (M a) 5 0 d 113 4 LS ST M h := s_get mt_113 dX5_many_1 f_5_7
theorem e113_4 : Rn X d 113 4 LS ST M h = Rn X d 113 5 LS (.int (zN 2) :: ST) M h := r_iconst mt_113 dX5_many_4 c_ic2
theorem e113_5 : Rn X d 113 5 LS (.int x :: .ref a :: ST) M h = q_ld X (M a) a x d 113 6 LS ST M h := s_iald mt_113 dX5_many_5
theorem e113_6 : Rn X d 113 6 (some (.ref a) :: t) ST M h = Rn X d 113 7 (some (.ref a) :: t) (.ref a :: ST) M h := r_aload_n mt_113 dX5_many_6 rfl
theorem e113_7 : Rn X d 113 7 LS (.ref a :: ST) M h = q_g X (M a) 5 0 d 113 10 LS ST M h := s_get mt_113 dX5_many_7 f_5_7
theorem e113_10 : Rn X d 113 10 LS ST M h = Rn X d 113 11 LS (.int (zN 1) :: ST) M h := r_iconst mt_113 dX5_many_10 c_ic1
theorem e113_11 : Rn X d 113 11 LS (.int x :: .ref a :: ST) M h = q_ld X (M a) a x d 113 12 LS ST M h := s_iald mt_113 dX5_many_11
theorem e113_12 : Rn X d 113 12 LS (.int y :: .int x :: ST) M h = Rn X d 113 13 LS (.int (x - y) :: ST) M h := r_isub mt_113 dX5_many_12
theorem e113_13 : Rn X d 113 13 LS ([.int x]) M h = some (.inl (some (.int x)), M, h) := r_iret mt_113 dX5_many_13 rfl
theorem e114_0 : Rn X d 114 0 LS ST M h = Rn X d 114 1 LS (.int (zN 0) :: ST) M h := r_iconst mt_114 dX5_asides_0 c_ic0
theorem e114_1 (ho : j_one l0 = true) : Rn X d 114 1 (l0 :: l1 :: t) (.int x :: ST) M h = Rn X d 114 2 (l0 :: some (.int x) :: t) ST M h := r_istore_n mt_114 dX5_asides_1 (by show 1 < _; simp only [List.length_cons]; omega) ho rfl
theorem e114_2 : Rn X d 114 2 (l0 :: some (.int x) :: t) ST M h = Rn X d 114 3 (l0 :: some (.int x) :: t) (.int x :: ST) M h := r_iload_n mt_114 dX5_asides_2 rfl
theorem e114_3 : Rn X d 114 3 LS ST M h = Rn X d 114 6 LS (.int (zN 206) :: ST) M h := r_sipush mt_114 dX5_asides_3 c_si206
theorem e114_6 : Rn X d 114 6 LS (.int y :: .int x :: ST) M h = q_le X y x d 114 27 9 LS ST M h := s_icge mt_114 dX5_asides_6 rfl
theorem e114_9 : Rn X d 114 9 (some (.ref a) :: t) ST M h = Rn X d 114 10 (some (.ref a) :: t) (.ref a :: ST) M h := r_aload_n mt_114 dX5_asides_9 rfl
theorem e114_10 : Rn X d 114 10 LS (.ref a :: ST) M h = q_g X (M a) 5 3 d 114 13 LS ST M h := s_get mt_114 dX5_asides_10 f_5_16
theorem e114_13 : Rn X d 114 13 (l0 :: some (.int x) :: t) ST M h = Rn X d 114 14 (l0 :: some (.int x) :: t) (.int x :: ST) M h := r_iload_n mt_114 dX5_asides_13 rfl
theorem e114_14 : Rn X d 114 14 (some (.ref a) :: t) ST M h = Rn X d 114 15 (some (.ref a) :: t) (.ref a :: ST) M h := r_aload_n mt_114 dX5_asides_14 rfl
theorem e114_15 : Rn X d 114 15 LS (.ref a :: ST) M h = q_g X (M a) 5 0 d 114 18 LS ST M h := s_get mt_114 dX5_asides_15 f_5_7
theorem e114_18 : Rn X d 114 18 (l0 :: some (.int x) :: t) ST M h = Rn X d 114 19 (l0 :: some (.int x) :: t) (.int x :: ST) M h := r_iload_n mt_114 dX5_asides_18 rfl
theorem e114_19 : Rn X d 114 19 LS (.int x :: .ref a :: ST) M h = q_ld X (M a) a x d 114 20 LS ST M h := s_iald mt_114 dX5_asides_19
theorem e114_20 : Rn X d 114 20 LS (.int y :: .int x :: .ref a :: ST) M h = q_st X (M a) a x y d 114 21 LS ST M h := s_iast mt_114 dX5_asides_20
theorem e114_21 (ho : j_one l0 = true) : Rn X d 114 21 (l0 :: some (.int x) :: t) ST M h = Rn X d 114 24 (l0 :: some (.int (x + (zN 1))) :: t) ST M h := r_iinc mt_114 dX5_asides_21 rfl (by simp only [List.length_cons]; omega) ho c_ic1 rfl
theorem e114_24 : Rn X d 114 24 LS ST M h = Rn X d 114 2 LS ST M h := r_goto mt_114 dX5_asides_24 rfl
theorem e114_27 : Rn X d 114 27 LS [] M h = some (.inl none, M, h) := r_vret mt_114 dX5_asides_27 rfl
theorem e115_0 : Rn X d 115 0 (some (.ref a) :: t) ST M h = Rn X d 115 1 (some (.ref a) :: t) (.ref a :: ST) M h := r_aload_n mt_115 dX5_saves_0 rfl
theorem e115_1 : Rn X d 115 1 LS (.ref a :: ST) M h = q_g X (M a) 5 2 d 115 4 LS ST M h := s_get mt_115 dX5_saves_1 f_5_41
theorem e115_4 : Rn X d 115 4 LS ST M h = Rn X d 115 5 LS (.int (zN 4) :: ST) M h := r_iconst mt_115 dX5_saves_4 c_ic4
theorem e115_5 : Rn X d 115 5 LS (.int y :: .int x :: ST) M h = q_eq X x y d 115 8 46 LS ST M h := s_icne mt_115 dX5_saves_5 rfl
theorem e115_8 : Rn X d 115 8 LS ST M h = Rn X d 115 11 LS (.int (zN 206) :: ST) M h := r_sipush mt_115 dX5_saves_8 c_si206
theorem e115_11 (ho : j_one l0 = true) : Rn X d 115 11 (l0 :: l1 :: t) (.int x :: ST) M h = Rn X d 115 12 (l0 :: some (.int x) :: t) ST M h := r_istore_n mt_115 dX5_saves_11 (by show 1 < _; simp only [List.length_cons]; omega) ho rfl
theorem e115_12 : Rn X d 115 12 (l0 :: some (.int x) :: t) ST M h = Rn X d 115 13 (l0 :: some (.int x) :: t) (.int x :: ST) M h := r_iload_n mt_115 dX5_saves_12 rfl
theorem e115_13 : Rn X d 115 13 LS ST M h = Rn X d 115 16 LS (.int (zN 824) :: ST) M h := r_sipush mt_115 dX5_saves_13 c_si824
theorem e115_16 : Rn X d 115 16 LS (.int y :: .int x :: ST) M h = q_le X y x d 115 41 19 LS ST M h := s_icge mt_115 dX5_saves_16 rfl
theorem e115_19 : Rn X d 115 19 (some (.ref a) :: t) ST M h = Rn X d 115 20 (some (.ref a) :: t) (.ref a :: ST) M h := r_aload_n mt_115 dX5_saves_19 rfl
theorem e115_20 : Rn X d 115 20 LS (.ref a :: ST) M h = q_g X (M a) 5 1 d 115 23 LS ST M h := s_get mt_115 dX5_saves_20 f_5_13
theorem e115_23 : Rn X d 115 23 (l0 :: some (.int x) :: t) ST M h = Rn X d 115 24 (l0 :: some (.int x) :: t) (.int x :: ST) M h := r_iload_n mt_115 dX5_saves_23 rfl
theorem e115_24 : Rn X d 115 24 LS ST M h = Rn X d 115 27 LS (.int (zN 206) :: ST) M h := r_sipush mt_115 dX5_saves_24 c_si206
theorem e115_27 : Rn X d 115 27 LS (.int y :: .int x :: ST) M h = Rn X d 115 28 LS (.int (x - y) :: ST) M h := r_isub mt_115 dX5_saves_27
theorem e115_28 : Rn X d 115 28 (some (.ref a) :: t) ST M h = Rn X d 115 29 (some (.ref a) :: t) (.ref a :: ST) M h := r_aload_n mt_115 dX5_saves_28 rfl
theorem e115_29 : Rn X d 115 29 LS (.ref a :: ST) M h = q_g X (M a) 5 1 d 115 32 LS ST M h := s_get mt_115 dX5_saves_29 f_5_13
theorem e115_32 : Rn X d 115 32 (l0 :: some (.int x) :: t) ST M h = Rn X d 115 33 (l0 :: some (.int x) :: t) (.int x :: ST) M h := r_iload_n mt_115 dX5_saves_32 rfl
theorem e115_33 : Rn X d 115 33 LS (.int x :: .ref a :: ST) M h = q_ld X (M a) a x d 115 34 LS ST M h := s_iald mt_115 dX5_saves_33
theorem e115_34 : Rn X d 115 34 LS (.int y :: .int x :: .ref a :: ST) M h = q_st X (M a) a x y d 115 35 LS ST M h := s_iast mt_115 dX5_saves_34
theorem e115_35 (ho : j_one l0 = true) : Rn X d 115 35 (l0 :: some (.int x) :: t) ST M h = Rn X d 115 38 (l0 :: some (.int (x + (zN 1))) :: t) ST M h := r_iinc mt_115 dX5_saves_35 rfl (by simp only [List.length_cons]; omega) ho c_ic1 rfl
theorem e115_38 : Rn X d 115 38 LS ST M h = Rn X d 115 12 LS ST M h := r_goto mt_115 dX5_saves_38 rfl
theorem e115_41 : Rn X d 115 41 (some (.ref a) :: t) ST M h = Rn X d 115 42 (some (.ref a) :: t) (.ref a :: ST) M h := r_aload_n mt_115 dX5_saves_41 rfl
theorem e115_42 : Rn X d 115 42 LS ST M h = Rn X d 115 43 LS (.int (zN 3) :: ST) M h := r_iconst mt_115 dX5_saves_42 c_ic3
theorem e115_43 : Rn X d 115 43 LS (.int x :: .ref a :: ST) M h = q_p X (M a) a 5 2 (.int x) d 115 46 LS ST M h := s_putN mt_115 dX5_saves_43 f_5_41 rfl rfl rfl
theorem e115_46 : Rn X d 115 46 LS ST M h = Rn X d 115 47 LS (.int (zN 0) :: ST) M h := r_iconst mt_115 dX5_saves_46 c_ic0
theorem e115_47 (ho : j_one l0 = true) : Rn X d 115 47 (l0 :: l1 :: t) (.int x :: ST) M h = Rn X d 115 48 (l0 :: some (.int x) :: t) ST M h := r_istore_n mt_115 dX5_saves_47 (by show 1 < _; simp only [List.length_cons]; omega) ho rfl
theorem e115_48 : Rn X d 115 48 (l0 :: some (.int x) :: t) ST M h = Rn X d 115 49 (l0 :: some (.int x) :: t) (.int x :: ST) M h := r_iload_n mt_115 dX5_saves_48 rfl
theorem e115_49 : Rn X d 115 49 LS ST M h = Rn X d 115 52 LS (.int (zN 206) :: ST) M h := r_sipush mt_115 dX5_saves_49 c_si206
theorem e115_52 : Rn X d 115 52 LS (.int y :: .int x :: ST) M h = q_le X y x d 115 82 55 LS ST M h := s_icge mt_115 dX5_saves_52 rfl
theorem e115_55 : Rn X d 115 55 (some (.ref a) :: t) ST M h = Rn X d 115 56 (some (.ref a) :: t) (.ref a :: ST) M h := r_aload_n mt_115 dX5_saves_55 rfl
theorem e115_56 : Rn X d 115 56 LS (.ref a :: ST) M h = q_g X (M a) 5 1 d 115 59 LS ST M h := s_get mt_115 dX5_saves_56 f_5_13
theorem e115_59 : Rn X d 115 59 LS ST M h = Rn X d 115 62 LS (.int (zN 206) :: ST) M h := r_sipush mt_115 dX5_saves_59 c_si206
theorem e115_62 : Rn X d 115 62 (some (.ref a) :: t) ST M h = Rn X d 115 63 (some (.ref a) :: t) (.ref a :: ST) M h := r_aload_n mt_115 dX5_saves_62 rfl
theorem e115_63 : Rn X d 115 63 LS (.ref a :: ST) M h = q_g X (M a) 5 2 d 115 66 LS ST M h := s_get mt_115 dX5_saves_63 f_5_41
theorem e115_66 : Rn X d 115 66 LS (.int y :: .int x :: ST) M h = Rn X d 115 67 LS (.int (x * y) :: ST) M h := r_imul mt_115 dX5_saves_66
theorem e115_67 : Rn X d 115 67 (l0 :: some (.int x) :: t) ST M h = Rn X d 115 68 (l0 :: some (.int x) :: t) (.int x :: ST) M h := r_iload_n mt_115 dX5_saves_67 rfl
theorem e115_68 : Rn X d 115 68 LS (.int y :: .int x :: ST) M h = Rn X d 115 69 LS (.int (x + y) :: ST) M h := r_iadd mt_115 dX5_saves_68
theorem e115_69 : Rn X d 115 69 (some (.ref a) :: t) ST M h = Rn X d 115 70 (some (.ref a) :: t) (.ref a :: ST) M h := r_aload_n mt_115 dX5_saves_69 rfl
theorem e115_70 : Rn X d 115 70 LS (.ref a :: ST) M h = q_g X (M a) 5 3 d 115 73 LS ST M h := s_get mt_115 dX5_saves_70 f_5_16
theorem e115_73 : Rn X d 115 73 (l0 :: some (.int x) :: t) ST M h = Rn X d 115 74 (l0 :: some (.int x) :: t) (.int x :: ST) M h := r_iload_n mt_115 dX5_saves_73 rfl
theorem e115_74 : Rn X d 115 74 LS (.int x :: .ref a :: ST) M h = q_ld X (M a) a x d 115 75 LS ST M h := s_iald mt_115 dX5_saves_74
theorem e115_75 : Rn X d 115 75 LS (.int y :: .int x :: .ref a :: ST) M h = q_st X (M a) a x y d 115 76 LS ST M h := s_iast mt_115 dX5_saves_75
theorem e115_76 (ho : j_one l0 = true) : Rn X d 115 76 (l0 :: some (.int x) :: t) ST M h = Rn X d 115 79 (l0 :: some (.int (x + (zN 1))) :: t) ST M h := r_iinc mt_115 dX5_saves_76 rfl (by simp only [List.length_cons]; omega) ho c_ic1 rfl
theorem e115_79 : Rn X d 115 79 LS ST M h = Rn X d 115 48 LS ST M h := r_goto mt_115 dX5_saves_79 rfl
theorem e115_82 : Rn X d 115 82 (some (.ref a) :: t) ST M h = Rn X d 115 83 (some (.ref a) :: t) (.ref a :: ST) M h := r_aload_n mt_115 dX5_saves_82 rfl
theorem e115_83 : Rn X d 115 83 LS (.int x :: ST) M h = Rn X d 115 84 LS (.int x :: .int x :: ST) M h := r_dup mt_115 dX5_saves_83 rfl
theorem e115_83r : Rn X d 115 83 LS (.ref a :: ST) M h = Rn X d 115 84 LS (.ref a :: .ref a :: ST) M h := r_dup mt_115 dX5_saves_83 rfl
theorem e115_84 : Rn X d 115 84 LS (.ref a :: ST) M h = q_g X (M a) 5 2 d 115 87 LS ST M h := s_get mt_115 dX5_saves_84 f_5_41
theorem e115_87 : Rn X d 115 87 LS ST M h = Rn X d 115 88 LS (.int (zN 1) :: ST) M h := r_iconst mt_115 dX5_saves_87 c_ic1
theorem e115_88 : Rn X d 115 88 LS (.int y :: .int x :: ST) M h = Rn X d 115 89 LS (.int (x + y) :: ST) M h := r_iadd mt_115 dX5_saves_88
theorem e115_89 : Rn X d 115 89 LS (.int x :: .ref a :: ST) M h = q_p X (M a) a 5 2 (.int x) d 115 92 LS ST M h := s_putN mt_115 dX5_saves_89 f_5_41 rfl rfl rfl
theorem e115_92 : Rn X d 115 92 LS [] M h = some (.inl none, M, h) := r_vret mt_115 dX5_saves_92 rfl
theorem e116_0 : Rn X d 116 0 (l0 :: some (.int x) :: t) ST M h = Rn X d 116 1 (l0 :: some (.int x) :: t) (.int x :: ST) M h := r_iload_n mt_116 dX5_ends_0 rfl
theorem e116_1 : Rn X d 116 1 LS (.int x :: ST) M h = q_le X x (zN 0) d 116 10 4 LS ST M h := s_ifle mt_116 dX5_ends_1 rfl
theorem e116_4 : Rn X d 116 4 (some (.ref a) :: t) ST M h = Rn X d 116 5 (some (.ref a) :: t) (.ref a :: ST) M h := r_aload_n mt_116 dX5_ends_4 rfl
theorem e116_5 : Rn X d 116 5 (l0 :: some (.int x) :: t) ST M h = Rn X d 116 6 (l0 :: some (.int x) :: t) (.int x :: ST) M h := r_iload_n mt_116 dX5_ends_5 rfl
theorem e116_6 (hcs : Nat.ble (j_cs ST) 8 = true) : Rn X (d + 1) 116 6 LS (.int x :: .ref a :: ST) M h = j_rc (M a) 5 (q_k X (Rn X d 102 0 [some (.ref a), some (.int x)] [] M (j_h0 h)) h (d + 1) 116 9 LS ST) := s_callV mt_116 dX5_ends_6 cl_5_44 mt_102 rfl rfl (Nat.le_add_left _ _) rfl rfl rfl rfl hcs
theorem e116_9 : Rn X d 116 9 LS ([.int x]) M h = some (.inl (some (.int x)), M, h) := r_iret mt_116 dX5_ends_9 rfl
theorem e116_10 : Rn X d 116 10 (some (.ref a) :: t) ST M h = Rn X d 116 11 (some (.ref a) :: t) (.ref a :: ST) M h := r_aload_n mt_116 dX5_ends_10 rfl
theorem e116_11 (hcs : Nat.ble (j_cs ST) 8 = true) : Rn X (d + 1) 116 11 LS (.ref a :: ST) M h = j_rc (M a) 5 (q_k X (Rn X d 115 0 [some (.ref a), none] [] M (j_h0 h)) h (d + 1) 116 14 LS ST) := s_callV mt_116 dX5_ends_11 cl_5_48 mt_115 rfl rfl (Nat.le_add_left _ _) rfl rfl rfl rfl hcs
theorem e116_14 : Rn X d 116 14 (some (.ref a) :: t) ST M h = Rn X d 116 15 (some (.ref a) :: t) (.ref a :: ST) M h := r_aload_n mt_116 dX5_ends_14 rfl
theorem e116_15 : Rn X d 116 15 (some (.ref a) :: t) ST M h = Rn X d 116 16 (some (.ref a) :: t) (.ref a :: ST) M h := r_aload_n mt_116 dX5_ends_15 rfl
theorem e116_16 : Rn X d 116 16 LS (.ref a :: ST) M h = q_g X (M a) 5 8 d 116 19 LS ST M h := s_get mt_116 dX5_ends_16 f_5_51
theorem e116_19 (hcs : Nat.ble (j_cs ST) 8 = true) : Rn X (d + 1) 116 19 LS (.int x :: .ref a :: ST) M h = j_rc (M a) 5 (q_k X (Rn X d 103 0 [some (.ref a), some (.int x)] [] M (j_h0 h)) h (d + 1) 116 22 LS ST) := s_callV mt_116 dX5_ends_19 cl_5_54 mt_103 rfl rfl (Nat.le_add_left _ _) rfl rfl rfl rfl hcs
theorem e116_22 : Rn X d 116 22 LS ([.int x]) M h = some (.inl (some (.int x)), M, h) := r_iret mt_116 dX5_ends_22 rfl
end
