/-! one rule an instruction, printed by wip/whole/gen25.py -/
section
variable {X : jX} {d : Nat} {l0 l1 l2 l3 l4 l5 l6 l7 l8 l9 l10 l11 : Option Value} {LS t : jL} {ST : List Value} {M : jM} {h : jH} {x y z w u : Int32} {a b c e : Nat} {p q : Int64} {f g : UInt64}
theorem e158_0 : Rn X d 158 0 (some (.ref a) :: t) ST M h = Rn X d 158 1 (some (.ref a) :: t) (.ref a :: ST) M h := r_aload_n mt_158 dX5_here_0 rfl
theorem e158_1 : Rn X d 158 1 LS (.ref a :: ST) M h = q_g X (M a) 5 9 d 158 4 LS ST M h := s_get mt_158 dX5_here_1 f_5_152
theorem e158_4 : Rn X d 158 4 (some (.ref a) :: t) ST M h = Rn X d 158 5 (some (.ref a) :: t) (.ref a :: ST) M h := r_aload_n mt_158 dX5_here_4 rfl
theorem e158_5 : Rn X d 158 5 LS (.ref a :: ST) M h = q_g X (M a) 5 5 d 158 8 LS ST M h := s_get mt_158 dX5_here_5 f_5_149
theorem e158_8 : Rn X d 158 8 LS (.int y :: .int x :: ST) M h = q_le X y x d 158 23 11 LS ST M h := s_icge mt_158 dX5_here_8 rfl
theorem e158_11 : Rn X d 158 11 (some (.ref a) :: t) ST M h = Rn X d 158 12 (some (.ref a) :: t) (.ref a :: ST) M h := r_aload_n mt_158 dX5_here_11 rfl
theorem e158_12 : Rn X d 158 12 LS (.ref a :: ST) M h = q_g X (M a) 5 4 d 158 15 LS ST M h := s_get mt_158 dX5_here_12 f_5_19
theorem e158_15 : Rn X d 158 15 (some (.ref a) :: t) ST M h = Rn X d 158 16 (some (.ref a) :: t) (.ref a :: ST) M h := r_aload_n mt_158 dX5_here_15 rfl
theorem e158_16 : Rn X d 158 16 LS (.ref a :: ST) M h = q_g X (M a) 5 9 d 158 19 LS ST M h := s_get mt_158 dX5_here_16 f_5_152
theorem e158_19 : Rn X d 158 19 LS (.int x :: .ref a :: ST) M h = q_ld X (M a) a x d 158 20 LS ST M h := s_iald mt_158 dX5_here_19
theorem e158_20 : Rn X d 158 20 LS ST M h = Rn X d 158 24 LS ST M h := r_goto mt_158 dX5_here_20 rfl
theorem e158_23 : Rn X d 158 23 LS ST M h = Rn X d 158 24 LS (.int (zM 0) :: ST) M h := r_iconst mt_158 dX5_here_23 c_icm1
theorem e158_24 : Rn X d 158 24 LS ([.int x]) M h = some (.inl (some (.int x)), M, h) := r_iret mt_158 dX5_here_24 rfl
theorem e159_0 : Rn X d 159 0 (some (.ref a) :: t) ST M h = Rn X d 159 1 (some (.ref a) :: t) (.ref a :: ST) M h := r_aload_n mt_159 dX5_wrong_0 rfl
theorem e159_1 : Rn X d 159 1 (some (.ref a) :: t) ST M h = Rn X d 159 2 (some (.ref a) :: t) (.ref a :: ST) M h := r_aload_n mt_159 dX5_wrong_1 rfl
theorem e159_2 : Rn X d 159 2 LS (.ref a :: ST) M h = q_g X (M a) 5 10 d 159 5 LS ST M h := s_get mt_159 dX5_wrong_2 f_5_155
theorem e159_5 : Rn X d 159 5 LS ST M h = Rn X d 159 6 LS (.int (zM 0) :: ST) M h := r_iconst mt_159 dX5_wrong_5 c_icm1
theorem e159_6 : Rn X d 159 6 LS (.int y :: .int x :: ST) M h = q_eq X x y d 159 9 13 LS ST M h := s_icne mt_159 dX5_wrong_6 rfl
theorem e159_9 : Rn X d 159 9 (l0 :: some (.int x) :: t) ST M h = Rn X d 159 10 (l0 :: some (.int x) :: t) (.int x :: ST) M h := r_iload_n mt_159 dX5_wrong_9 rfl
theorem e159_10 : Rn X d 159 10 LS ST M h = Rn X d 159 17 LS ST M h := r_goto mt_159 dX5_wrong_10 rfl
theorem e159_13 : Rn X d 159 13 (some (.ref a) :: t) ST M h = Rn X d 159 14 (some (.ref a) :: t) (.ref a :: ST) M h := r_aload_n mt_159 dX5_wrong_13 rfl
theorem e159_14 : Rn X d 159 14 LS (.ref a :: ST) M h = q_g X (M a) 5 10 d 159 17 LS ST M h := s_get mt_159 dX5_wrong_14 f_5_155
theorem e159_17 : Rn X d 159 17 LS (.int x :: .ref a :: ST) M h = q_p X (M a) a 5 10 (.int x) d 159 20 LS ST M h := s_putN mt_159 dX5_wrong_17 f_5_155 rfl rfl rfl
theorem e159_20 : Rn X d 159 20 LS [] M h = some (.inl none, M, h) := r_vret mt_159 dX5_wrong_20 rfl
theorem e160_0 : Rn X d 160 0 (some (.ref a) :: t) ST M h = Rn X d 160 1 (some (.ref a) :: t) (.ref a :: ST) M h := r_aload_n mt_160 dX5_sign_0 rfl
theorem e160_1 (hcs : Nat.ble (j_cs ST) 8 = true) : Rn X (d + 1) 160 1 LS (.ref a :: ST) M h = j_rc (M a) 5 (q_k X (Rn X d 158 0 [some (.ref a)] [] M (j_h0 h)) h (d + 1) 160 4 LS ST) := s_callV mt_160 dX5_sign_1 cl_5_158 mt_158 rfl rfl (Nat.le_add_left _ _) rfl rfl rfl rfl hcs
theorem e160_4 : Rn X d 160 4 (l0 :: some (.int x) :: t) ST M h = Rn X d 160 5 (l0 :: some (.int x) :: t) (.int x :: ST) M h := r_iload_n mt_160 dX5_sign_4 rfl
theorem e160_5 : Rn X d 160 5 LS (.int y :: .int x :: ST) M h = q_eq X x y d 160 16 8 LS ST M h := s_iceq mt_160 dX5_sign_5 rfl
theorem e160_8 : Rn X d 160 8 (some (.ref a) :: t) ST M h = Rn X d 160 9 (some (.ref a) :: t) (.ref a :: ST) M h := r_aload_n mt_160 dX5_sign_8 rfl
theorem e160_9 : Rn X d 160 9 (some (.ref a) :: t) ST M h = Rn X d 160 10 (some (.ref a) :: t) (.ref a :: ST) M h := r_aload_n mt_160 dX5_sign_9 rfl
theorem e160_10 : Rn X d 160 10 LS (.ref a :: ST) M h = q_g X (M a) 5 9 d 160 13 LS ST M h := s_get mt_160 dX5_sign_10 f_5_152
theorem e160_13 (hcs : Nat.ble (j_cs ST) 8 = true) : Rn X (d + 1) 160 13 LS (.int x :: .ref a :: ST) M h = j_rc (M a) 5 (q_k X (Rn X d 159 0 [some (.ref a), some (.int x)] [] M (j_h0 h)) h (d + 1) 160 16 LS ST) := s_callV mt_160 dX5_sign_13 cl_5_161 mt_159 rfl rfl (Nat.le_add_left _ _) rfl rfl rfl rfl hcs
theorem e160_16 : Rn X d 160 16 (some (.ref a) :: t) ST M h = Rn X d 160 17 (some (.ref a) :: t) (.ref a :: ST) M h := r_aload_n mt_160 dX5_sign_16 rfl
theorem e160_17 : Rn X d 160 17 LS (.int x :: ST) M h = Rn X d 160 18 LS (.int x :: .int x :: ST) M h := r_dup mt_160 dX5_sign_17 rfl
theorem e160_17r : Rn X d 160 17 LS (.ref a :: ST) M h = Rn X d 160 18 LS (.ref a :: .ref a :: ST) M h := r_dup mt_160 dX5_sign_17 rfl
theorem e160_18 : Rn X d 160 18 LS (.ref a :: ST) M h = q_g X (M a) 5 9 d 160 21 LS ST M h := s_get mt_160 dX5_sign_18 f_5_152
theorem e160_21 : Rn X d 160 21 LS ST M h = Rn X d 160 22 LS (.int (zN 1) :: ST) M h := r_iconst mt_160 dX5_sign_21 c_ic1
theorem e160_22 : Rn X d 160 22 LS (.int y :: .int x :: ST) M h = Rn X d 160 23 LS (.int (x + y) :: ST) M h := r_iadd mt_160 dX5_sign_22
theorem e160_23 : Rn X d 160 23 LS (.int x :: .ref a :: ST) M h = q_p X (M a) a 5 9 (.int x) d 160 26 LS ST M h := s_putN mt_160 dX5_sign_23 f_5_152 rfl rfl rfl
theorem e160_26 : Rn X d 160 26 LS [] M h = some (.inl none, M, h) := r_vret mt_160 dX5_sign_26 rfl
theorem e161_0 : Rn X d 161 0 (some (.ref a) :: t) ST M h = Rn X d 161 1 (some (.ref a) :: t) (.ref a :: ST) M h := r_aload_n mt_161 dX5_digit_0 rfl
theorem e161_1 (hcs : Nat.ble (j_cs ST) 8 = true) : Rn X (d + 1) 161 1 LS (.ref a :: ST) M h = j_rc (M a) 5 (q_k X (Rn X d 158 0 [some (.ref a)] [] M (j_h0 h)) h (d + 1) 161 4 LS ST) := s_callV mt_161 dX5_digit_1 cl_5_158 mt_158 rfl rfl (Nat.le_add_left _ _) rfl rfl rfl rfl hcs
theorem e161_4 : Rn X d 161 4 LS ST M h = Rn X d 161 6 LS (.int (zN 48) :: ST) M h := r_bipush mt_161 dX5_digit_4 c_bi48
theorem e161_6 : Rn X d 161 6 LS (.int y :: .int x :: ST) M h = Rn X d 161 7 LS (.int (x - y) :: ST) M h := r_isub mt_161 dX5_digit_6
theorem e161_7 (ho : j_one l1 = true) : Rn X d 161 7 (l0 :: l1 :: l2 :: t) (.int x :: ST) M h = Rn X d 161 8 (l0 :: l1 :: some (.int x) :: t) ST M h := r_istore_n mt_161 dX5_digit_7 (by show 2 < _; simp only [List.length_cons]; omega) ho rfl
theorem e161_8 : Rn X d 161 8 (l0 :: l1 :: some (.int x) :: t) ST M h = Rn X d 161 9 (l0 :: l1 :: some (.int x) :: t) (.int x :: ST) M h := r_iload_n mt_161 dX5_digit_8 rfl
theorem e161_9 : Rn X d 161 9 LS ST M h = Rn X d 161 10 LS (.int (zN 0) :: ST) M h := r_iconst mt_161 dX5_digit_9 c_ic0
theorem e161_10 : Rn X d 161 10 (l0 :: some (.int x) :: t) ST M h = Rn X d 161 11 (l0 :: some (.int x) :: t) (.int x :: ST) M h := r_iload_n mt_161 dX5_digit_10 rfl
theorem e161_11 (hcs : Nat.ble (j_cs ST) 8 = true) : Rn X (d + 1) 161 11 LS (.int z :: .int y :: .int x :: ST) M h = q_k X (Rn X d 104 0 [some (.int x), some (.int y), some (.int z)] [] M (j_h0 h)) h (d + 1) 161 14 LS ST := s_callS (Or.inl rfl) mt_161 dX5_digit_11 cl_5_33 mt_104 rfl (Nat.le_add_left _ _) rfl rfl rfl rfl hcs
theorem e161_14 : Rn X d 161 14 LS (.int x :: ST) M h = q_eq X x (zN 0) d 161 17 25 LS ST M h := s_ifne mt_161 dX5_digit_14 rfl
theorem e161_17 : Rn X d 161 17 (some (.ref a) :: t) ST M h = Rn X d 161 18 (some (.ref a) :: t) (.ref a :: ST) M h := r_aload_n mt_161 dX5_digit_17 rfl
theorem e161_18 : Rn X d 161 18 (some (.ref a) :: t) ST M h = Rn X d 161 19 (some (.ref a) :: t) (.ref a :: ST) M h := r_aload_n mt_161 dX5_digit_18 rfl
theorem e161_19 : Rn X d 161 19 LS (.ref a :: ST) M h = q_g X (M a) 5 9 d 161 22 LS ST M h := s_get mt_161 dX5_digit_19 f_5_152
theorem e161_22 (hcs : Nat.ble (j_cs ST) 8 = true) : Rn X (d + 1) 161 22 LS (.int x :: .ref a :: ST) M h = j_rc (M a) 5 (q_k X (Rn X d 159 0 [some (.ref a), some (.int x)] [] M (j_h0 h)) h (d + 1) 161 25 LS ST) := s_callV mt_161 dX5_digit_22 cl_5_161 mt_159 rfl rfl (Nat.le_add_left _ _) rfl rfl rfl rfl hcs
theorem e161_25 : Rn X d 161 25 (some (.ref a) :: t) ST M h = Rn X d 161 26 (some (.ref a) :: t) (.ref a :: ST) M h := r_aload_n mt_161 dX5_digit_25 rfl
theorem e161_26 : Rn X d 161 26 LS (.int x :: ST) M h = Rn X d 161 27 LS (.int x :: .int x :: ST) M h := r_dup mt_161 dX5_digit_26 rfl
theorem e161_26r : Rn X d 161 26 LS (.ref a :: ST) M h = Rn X d 161 27 LS (.ref a :: .ref a :: ST) M h := r_dup mt_161 dX5_digit_26 rfl
theorem e161_27 : Rn X d 161 27 LS (.ref a :: ST) M h = q_g X (M a) 5 9 d 161 30 LS ST M h := s_get mt_161 dX5_digit_27 f_5_152
theorem e161_30 : Rn X d 161 30 LS ST M h = Rn X d 161 31 LS (.int (zN 1) :: ST) M h := r_iconst mt_161 dX5_digit_30 c_ic1
theorem e161_31 : Rn X d 161 31 LS (.int y :: .int x :: ST) M h = Rn X d 161 32 LS (.int (x + y) :: ST) M h := r_iadd mt_161 dX5_digit_31
theorem e161_32 : Rn X d 161 32 LS (.int x :: .ref a :: ST) M h = q_p X (M a) a 5 9 (.int x) d 161 35 LS ST M h := s_putN mt_161 dX5_digit_32 f_5_152 rfl rfl rfl
theorem e161_35 : Rn X d 161 35 (l0 :: l1 :: some (.int x) :: t) ST M h = Rn X d 161 36 (l0 :: l1 :: some (.int x) :: t) (.int x :: ST) M h := r_iload_n mt_161 dX5_digit_35 rfl
theorem e161_36 : Rn X d 161 36 LS ([.int x]) M h = some (.inl (some (.int x)), M, h) := r_iret mt_161 dX5_digit_36 rfl
theorem e162_0 : Rn X d 162 0 (some (.int x) :: t) ST M h = Rn X d 162 1 (some (.int x) :: t) (.int x :: ST) M h := r_iload_n mt_162 dX5_isDigit_0 rfl
theorem e162_1 : Rn X d 162 1 LS ST M h = Rn X d 162 3 LS (.int (zN 48) :: ST) M h := r_bipush mt_162 dX5_isDigit_1 c_bi48
theorem e162_3 : Rn X d 162 3 LS ST M h = Rn X d 162 5 LS (.int (zN 57) :: ST) M h := r_bipush mt_162 dX5_isDigit_3 c_bi57
theorem e162_5 (hcs : Nat.ble (j_cs ST) 8 = true) : Rn X (d + 1) 162 5 LS (.int z :: .int y :: .int x :: ST) M h = q_k X (Rn X d 104 0 [some (.int x), some (.int y), some (.int z)] [] M (j_h0 h)) h (d + 1) 162 8 LS ST := s_callS (Or.inl rfl) mt_162 dX5_isDigit_5 cl_5_33 mt_104 rfl (Nat.le_add_left _ _) rfl rfl rfl rfl hcs
theorem e162_8 {v : Nat} (h0 : v < 2) : Rn X d 162 8 LS ([.int (zN v)]) M h = some (.inl (some (.int (zN v))), M, h) := s_zret mt_162 dX5_isDigit_8 rfl h0
theorem e163_0 : Rn X d 163 0 (some (.ref a) :: t) ST M h = Rn X d 163 1 (some (.ref a) :: t) (.ref a :: ST) M h := r_aload_n mt_163 dX5_readAmount_0 rfl
theorem e163_1 : Rn X d 163 1 LS (.ref a :: ST) M h = q_g X (M a) 5 9 d 163 4 LS ST M h := s_get mt_163 dX5_readAmount_1 f_5_152
theorem e163_4 (ho : j_one l0 = true) : Rn X d 163 4 (l0 :: l1 :: t) (.int x :: ST) M h = Rn X d 163 5 (l0 :: some (.int x) :: t) ST M h := r_istore_n mt_163 dX5_readAmount_4 (by show 1 < _; simp only [List.length_cons]; omega) ho rfl
theorem e163_5 : Rn X d 163 5 (some (.ref a) :: t) ST M h = Rn X d 163 6 (some (.ref a) :: t) (.ref a :: ST) M h := r_aload_n mt_163 dX5_readAmount_5 rfl
theorem e163_6 (hcs : Nat.ble (j_cs ST) 8 = true) : Rn X (d + 1) 163 6 LS (.ref a :: ST) M h = j_rc (M a) 5 (q_k X (Rn X d 158 0 [some (.ref a)] [] M (j_h0 h)) h (d + 1) 163 9 LS ST) := s_callV mt_163 dX5_readAmount_6 cl_5_158 mt_158 rfl rfl (Nat.le_add_left _ _) rfl rfl rfl rfl hcs
theorem e163_9 (hcs : Nat.ble (j_cs ST) 8 = true) : Rn X (d + 1) 163 9 LS (.int x :: ST) M h = q_k X (Rn X d 162 0 [some (.int x)] [] M (j_h0 h)) h (d + 1) 163 12 LS ST := s_callS (Or.inl rfl) mt_163 dX5_readAmount_9 cl_5_164 mt_162 rfl (Nat.le_add_left _ _) rfl rfl rfl rfl hcs
theorem e163_12 : Rn X d 163 12 LS (.int x :: ST) M h = q_eq X x (zN 0) d 163 15 23 LS ST M h := s_ifne mt_163 dX5_readAmount_12 rfl
theorem e163_15 : Rn X d 163 15 (some (.ref a) :: t) ST M h = Rn X d 163 16 (some (.ref a) :: t) (.ref a :: ST) M h := r_aload_n mt_163 dX5_readAmount_15 rfl
theorem e163_16 : Rn X d 163 16 (some (.ref a) :: t) ST M h = Rn X d 163 17 (some (.ref a) :: t) (.ref a :: ST) M h := r_aload_n mt_163 dX5_readAmount_16 rfl
theorem e163_17 : Rn X d 163 17 LS (.ref a :: ST) M h = q_g X (M a) 5 9 d 163 20 LS ST M h := s_get mt_163 dX5_readAmount_17 f_5_152
theorem e163_20 (hcs : Nat.ble (j_cs ST) 8 = true) : Rn X (d + 1) 163 20 LS (.int x :: .ref a :: ST) M h = j_rc (M a) 5 (q_k X (Rn X d 159 0 [some (.ref a), some (.int x)] [] M (j_h0 h)) h (d + 1) 163 23 LS ST) := s_callV mt_163 dX5_readAmount_20 cl_5_161 mt_159 rfl rfl (Nat.le_add_left _ _) rfl rfl rfl rfl hcs
theorem e163_23 : Rn X d 163 23 LS ST M h = Rn X d 163 24 LS (.int (zN 0) :: ST) M h := r_iconst mt_163 dX5_readAmount_23 c_ic0
theorem e163_24 (ho : j_one l1 = true) : Rn X d 163 24 (l0 :: l1 :: l2 :: t) (.int x :: ST) M h = Rn X d 163 25 (l0 :: l1 :: some (.int x) :: t) ST M h := r_istore_n mt_163 dX5_readAmount_24 (by show 2 < _; simp only [List.length_cons]; omega) ho rfl
theorem e163_25 : Rn X d 163 25 (some (.ref a) :: t) ST M h = Rn X d 163 26 (some (.ref a) :: t) (.ref a :: ST) M h := r_aload_n mt_163 dX5_readAmount_25 rfl
theorem e163_26 (hcs : Nat.ble (j_cs ST) 8 = true) : Rn X (d + 1) 163 26 LS (.ref a :: ST) M h = j_rc (M a) 5 (q_k X (Rn X d 158 0 [some (.ref a)] [] M (j_h0 h)) h (d + 1) 163 29 LS ST) := s_callV mt_163 dX5_readAmount_26 cl_5_158 mt_158 rfl rfl (Nat.le_add_left _ _) rfl rfl rfl rfl hcs
theorem e163_29 (hcs : Nat.ble (j_cs ST) 8 = true) : Rn X (d + 1) 163 29 LS (.int x :: ST) M h = q_k X (Rn X d 162 0 [some (.int x)] [] M (j_h0 h)) h (d + 1) 163 32 LS ST := s_callS (Or.inl rfl) mt_163 dX5_readAmount_29 cl_5_164 mt_162 rfl (Nat.le_add_left _ _) rfl rfl rfl rfl hcs
theorem e163_32 : Rn X d 163 32 LS (.int x :: ST) M h = q_eq X x (zN 0) d 163 71 35 LS ST M h := s_ifeq mt_163 dX5_readAmount_32 rfl
theorem e163_35 : Rn X d 163 35 (some (.ref a) :: t) ST M h = Rn X d 163 36 (some (.ref a) :: t) (.ref a :: ST) M h := r_aload_n mt_163 dX5_readAmount_35 rfl
theorem e163_36 : Rn X d 163 36 LS (.ref a :: ST) M h = q_g X (M a) 5 9 d 163 39 LS ST M h := s_get mt_163 dX5_readAmount_36 f_5_152
theorem e163_39 : Rn X d 163 39 (l0 :: some (.int x) :: t) ST M h = Rn X d 163 40 (l0 :: some (.int x) :: t) (.int x :: ST) M h := r_iload_n mt_163 dX5_readAmount_39 rfl
theorem e163_40 : Rn X d 163 40 LS (.int y :: .int x :: ST) M h = Rn X d 163 41 LS (.int (x - y) :: ST) M h := r_isub mt_163 dX5_readAmount_40
theorem e163_41 : Rn X d 163 41 LS ST M h = Rn X d 163 42 LS (.int (zN 2) :: ST) M h := r_iconst mt_163 dX5_readAmount_41 c_ic2
theorem e163_42 : Rn X d 163 42 LS (.int y :: .int x :: ST) M h = q_le X y x d 163 71 45 LS ST M h := s_icge mt_163 dX5_readAmount_42 rfl
theorem e163_45 : Rn X d 163 45 LS ST M h = Rn X d 163 47 LS (.int (zN 10) :: ST) M h := r_bipush mt_163 dX5_readAmount_45 c_bi10
theorem e163_47 : Rn X d 163 47 (l0 :: l1 :: some (.int x) :: t) ST M h = Rn X d 163 48 (l0 :: l1 :: some (.int x) :: t) (.int x :: ST) M h := r_iload_n mt_163 dX5_readAmount_47 rfl
theorem e163_48 : Rn X d 163 48 LS (.int y :: .int x :: ST) M h = Rn X d 163 49 LS (.int (x * y) :: ST) M h := r_imul mt_163 dX5_readAmount_48
theorem e163_49 : Rn X d 163 49 (some (.ref a) :: t) ST M h = Rn X d 163 50 (some (.ref a) :: t) (.ref a :: ST) M h := r_aload_n mt_163 dX5_readAmount_49 rfl
theorem e163_50 (hcs : Nat.ble (j_cs ST) 8 = true) : Rn X (d + 1) 163 50 LS (.ref a :: ST) M h = j_rc (M a) 5 (q_k X (Rn X d 158 0 [some (.ref a)] [] M (j_h0 h)) h (d + 1) 163 53 LS ST) := s_callV mt_163 dX5_readAmount_50 cl_5_158 mt_158 rfl rfl (Nat.le_add_left _ _) rfl rfl rfl rfl hcs
theorem e163_53 : Rn X d 163 53 LS (.int y :: .int x :: ST) M h = Rn X d 163 54 LS (.int (x + y) :: ST) M h := r_iadd mt_163 dX5_readAmount_53
theorem e163_54 : Rn X d 163 54 LS ST M h = Rn X d 163 56 LS (.int (zN 48) :: ST) M h := r_bipush mt_163 dX5_readAmount_54 c_bi48
theorem e163_56 : Rn X d 163 56 LS (.int y :: .int x :: ST) M h = Rn X d 163 57 LS (.int (x - y) :: ST) M h := r_isub mt_163 dX5_readAmount_56
theorem e163_57 (ho : j_one l1 = true) : Rn X d 163 57 (l0 :: l1 :: l2 :: t) (.int x :: ST) M h = Rn X d 163 58 (l0 :: l1 :: some (.int x) :: t) ST M h := r_istore_n mt_163 dX5_readAmount_57 (by show 2 < _; simp only [List.length_cons]; omega) ho rfl
theorem e163_58 : Rn X d 163 58 (some (.ref a) :: t) ST M h = Rn X d 163 59 (some (.ref a) :: t) (.ref a :: ST) M h := r_aload_n mt_163 dX5_readAmount_58 rfl
theorem e163_59 : Rn X d 163 59 LS (.int x :: ST) M h = Rn X d 163 60 LS (.int x :: .int x :: ST) M h := r_dup mt_163 dX5_readAmount_59 rfl
theorem e163_59r : Rn X d 163 59 LS (.ref a :: ST) M h = Rn X d 163 60 LS (.ref a :: .ref a :: ST) M h := r_dup mt_163 dX5_readAmount_59 rfl
theorem e163_60 : Rn X d 163 60 LS (.ref a :: ST) M h = q_g X (M a) 5 9 d 163 63 LS ST M h := s_get mt_163 dX5_readAmount_60 f_5_152
theorem e163_63 : Rn X d 163 63 LS ST M h = Rn X d 163 64 LS (.int (zN 1) :: ST) M h := r_iconst mt_163 dX5_readAmount_63 c_ic1
theorem e163_64 : Rn X d 163 64 LS (.int y :: .int x :: ST) M h = Rn X d 163 65 LS (.int (x + y) :: ST) M h := r_iadd mt_163 dX5_readAmount_64
theorem e163_65 : Rn X d 163 65 LS (.int x :: .ref a :: ST) M h = q_p X (M a) a 5 9 (.int x) d 163 68 LS ST M h := s_putN mt_163 dX5_readAmount_65 f_5_152 rfl rfl rfl
theorem e163_68 : Rn X d 163 68 LS ST M h = Rn X d 163 25 LS ST M h := r_goto mt_163 dX5_readAmount_68 rfl
theorem e163_71 : Rn X d 163 71 (some (.ref a) :: t) ST M h = Rn X d 163 72 (some (.ref a) :: t) (.ref a :: ST) M h := r_aload_n mt_163 dX5_readAmount_71 rfl
theorem e163_72 (hcs : Nat.ble (j_cs ST) 8 = true) : Rn X (d + 1) 163 72 LS (.ref a :: ST) M h = j_rc (M a) 5 (q_k X (Rn X d 158 0 [some (.ref a)] [] M (j_h0 h)) h (d + 1) 163 75 LS ST) := s_callV mt_163 dX5_readAmount_72 cl_5_158 mt_158 rfl rfl (Nat.le_add_left _ _) rfl rfl rfl rfl hcs
theorem e163_75 (hcs : Nat.ble (j_cs ST) 8 = true) : Rn X (d + 1) 163 75 LS (.int x :: ST) M h = q_k X (Rn X d 162 0 [some (.int x)] [] M (j_h0 h)) h (d + 1) 163 78 LS ST := s_callS (Or.inl rfl) mt_163 dX5_readAmount_75 cl_5_164 mt_162 rfl (Nat.le_add_left _ _) rfl rfl rfl rfl hcs
theorem e163_78 : Rn X d 163 78 LS (.int x :: ST) M h = q_eq X x (zN 0) d 163 89 81 LS ST M h := s_ifeq mt_163 dX5_readAmount_78 rfl
theorem e163_81 : Rn X d 163 81 (some (.ref a) :: t) ST M h = Rn X d 163 82 (some (.ref a) :: t) (.ref a :: ST) M h := r_aload_n mt_163 dX5_readAmount_81 rfl
theorem e163_82 : Rn X d 163 82 (some (.ref a) :: t) ST M h = Rn X d 163 83 (some (.ref a) :: t) (.ref a :: ST) M h := r_aload_n mt_163 dX5_readAmount_82 rfl
theorem e163_83 : Rn X d 163 83 LS (.ref a :: ST) M h = q_g X (M a) 5 9 d 163 86 LS ST M h := s_get mt_163 dX5_readAmount_83 f_5_152
theorem e163_86 (hcs : Nat.ble (j_cs ST) 8 = true) : Rn X (d + 1) 163 86 LS (.int x :: .ref a :: ST) M h = j_rc (M a) 5 (q_k X (Rn X d 159 0 [some (.ref a), some (.int x)] [] M (j_h0 h)) h (d + 1) 163 89 LS ST) := s_callV mt_163 dX5_readAmount_86 cl_5_161 mt_159 rfl rfl (Nat.le_add_left _ _) rfl rfl rfl rfl hcs
theorem e163_89 : Rn X d 163 89 (l0 :: l1 :: some (.int x) :: t) ST M h = Rn X d 163 90 (l0 :: l1 :: some (.int x) :: t) (.int x :: ST) M h := r_iload_n mt_163 dX5_readAmount_89 rfl
theorem e163_90 : Rn X d 163 90 LS (.int x :: ST) M h = q_eq X x (zN 0) d 163 93 98 LS ST M h := s_ifne mt_163 dX5_readAmount_90 rfl
theorem e163_93 : Rn X d 163 93 (some (.ref a) :: t) ST M h = Rn X d 163 94 (some (.ref a) :: t) (.ref a :: ST) M h := r_aload_n mt_163 dX5_readAmount_93 rfl
theorem e163_94 : Rn X d 163 94 (l0 :: some (.int x) :: t) ST M h = Rn X d 163 95 (l0 :: some (.int x) :: t) (.int x :: ST) M h := r_iload_n mt_163 dX5_readAmount_94 rfl
theorem e163_95 (hcs : Nat.ble (j_cs ST) 8 = true) : Rn X (d + 1) 163 95 LS (.int x :: .ref a :: ST) M h = j_rc (M a) 5 (q_k X (Rn X d 159 0 [some (.ref a), some (.int x)] [] M (j_h0 h)) h (d + 1) 163 98 LS ST) := s_callV mt_163 dX5_readAmount_95 cl_5_161 mt_159 rfl rfl (Nat.le_add_left _ _) rfl rfl rfl rfl hcs
theorem e163_98 : Rn X d 163 98 (l0 :: l1 :: some (.int x) :: t) ST M h = Rn X d 163 99 (l0 :: l1 :: some (.int x) :: t) (.int x :: ST) M h := r_iload_n mt_163 dX5_readAmount_98 rfl
theorem e163_99 : Rn X d 163 99 LS ([.int x]) M h = some (.inl (some (.int x)), M, h) := r_iret mt_163 dX5_readAmount_99 rfl
theorem e164_0 : Rn X d 164 0 (some (.ref a) :: t) ST M h = Rn X d 164 1 (some (.ref a) :: t) (.ref a :: ST) M h := r_aload_n mt_164 dX5_reads_0 rfl
theorem e164_1 : Rn X d 164 1 (some (.ref a) :: t) ST M h = Rn X d 164 2 (some (.ref a) :: t) (.ref a :: ST) M h := r_aload_n mt_164 dX5_reads_1 rfl
theorem e164_2 (hcs : Nat.ble (j_cs ST) 8 = true) : Rn X (d + 1) 164 2 LS (.ref a :: ST) M h = j_rc (M a) 5 (q_k X (Rn X d 158 0 [some (.ref a)] [] M (j_h0 h)) h (d + 1) 164 5 LS ST) := s_callV mt_164 dX5_reads_2 cl_5_158 mt_158 rfl rfl (Nat.le_add_left _ _) rfl rfl rfl rfl hcs
theorem e164_5 : Rn X d 164 5 LS (.int x :: .ref a :: ST) M h = q_p X (M a) a 5 11 (.int x) d 164 8 LS ST M h := s_putN mt_164 dX5_reads_5 f_5_167 rfl rfl rfl
theorem e164_8 : Rn X d 164 8 (some (.ref a) :: t) ST M h = Rn X d 164 9 (some (.ref a) :: t) (.ref a :: ST) M h := r_aload_n mt_164 dX5_reads_8 rfl
theorem e164_9 : Rn X d 164 9 LS (.int x :: ST) M h = Rn X d 164 10 LS (.int x :: .int x :: ST) M h := r_dup mt_164 dX5_reads_9 rfl
theorem e164_9r : Rn X d 164 9 LS (.ref a :: ST) M h = Rn X d 164 10 LS (.ref a :: .ref a :: ST) M h := r_dup mt_164 dX5_reads_9 rfl
theorem e164_10 : Rn X d 164 10 LS (.ref a :: ST) M h = q_g X (M a) 5 9 d 164 13 LS ST M h := s_get mt_164 dX5_reads_10 f_5_152
theorem e164_13 : Rn X d 164 13 LS ST M h = Rn X d 164 14 LS (.int (zN 1) :: ST) M h := r_iconst mt_164 dX5_reads_13 c_ic1
theorem e164_14 : Rn X d 164 14 LS (.int y :: .int x :: ST) M h = Rn X d 164 15 LS (.int (x + y) :: ST) M h := r_iadd mt_164 dX5_reads_14
theorem e164_15 : Rn X d 164 15 LS (.int x :: .ref a :: ST) M h = q_p X (M a) a 5 9 (.int x) d 164 18 LS ST M h := s_putN mt_164 dX5_reads_15 f_5_152 rfl rfl rfl
theorem e164_18 : Rn X d 164 18 (some (.ref a) :: t) ST M h = Rn X d 164 19 (some (.ref a) :: t) (.ref a :: ST) M h := r_aload_n mt_164 dX5_reads_18 rfl
theorem e164_19 : Rn X d 164 19 LS (.ref a :: ST) M h = q_g X (M a) 5 11 d 164 22 LS ST M h := s_get mt_164 dX5_reads_19 f_5_167
theorem e164_22_99 : Rn X d 164 22 LS (.int (zN 99) :: ST) M h = Rn X d 164 205 LS ST M h := s_tab (off := 183) mt_164 dX5_reads_22 (by decide) (by decide) (by decide +kernel) rfl
theorem e164_22_100 : Rn X d 164 22 LS (.int (zN 100) :: ST) M h = Rn X d 164 217 LS ST M h := s_tab (off := 195) mt_164 dX5_reads_22 (by decide) (by decide) (by decide +kernel) rfl
theorem e164_22_101 : Rn X d 164 22 LS (.int (zN 101) :: ST) M h = Rn X d 164 217 LS ST M h := s_tab (off := 195) mt_164 dX5_reads_22 (by decide) (by decide) (by decide +kernel) rfl
theorem e164_22_102 : Rn X d 164 22 LS (.int (zN 102) :: ST) M h = Rn X d 164 217 LS ST M h := s_tab (off := 195) mt_164 dX5_reads_22 (by decide) (by decide) (by decide +kernel) rfl
theorem e164_22_103 : Rn X d 164 22 LS (.int (zN 103) :: ST) M h = Rn X d 164 217 LS ST M h := s_tab (off := 195) mt_164 dX5_reads_22 (by decide) (by decide) (by decide +kernel) rfl
theorem e164_22_104 : Rn X d 164 22 LS (.int (zN 104) :: ST) M h = Rn X d 164 217 LS ST M h := s_tab (off := 195) mt_164 dX5_reads_22 (by decide) (by decide) (by decide +kernel) rfl
theorem e164_22_105 : Rn X d 164 22 LS (.int (zN 105) :: ST) M h = Rn X d 164 217 LS ST M h := s_tab (off := 195) mt_164 dX5_reads_22 (by decide) (by decide) (by decide +kernel) rfl
theorem e164_22_106 : Rn X d 164 22 LS (.int (zN 106) :: ST) M h = Rn X d 164 217 LS ST M h := s_tab (off := 195) mt_164 dX5_reads_22 (by decide) (by decide) (by decide +kernel) rfl
theorem e164_22_107 : Rn X d 164 22 LS (.int (zN 107) :: ST) M h = Rn X d 164 217 LS ST M h := s_tab (off := 195) mt_164 dX5_reads_22 (by decide) (by decide) (by decide +kernel) rfl
theorem e164_22_108 : Rn X d 164 22 LS (.int (zN 108) :: ST) M h = Rn X d 164 116 LS ST M h := s_tab (off := 94) mt_164 dX5_reads_22 (by decide) (by decide) (by decide +kernel) rfl
theorem e164_22_109 : Rn X d 164 22 LS (.int (zN 109) :: ST) M h = Rn X d 164 148 LS ST M h := s_tab (off := 126) mt_164 dX5_reads_22 (by decide) (by decide) (by decide +kernel) rfl
theorem e164_22_110 : Rn X d 164 22 LS (.int (zN 110) :: ST) M h = Rn X d 164 217 LS ST M h := s_tab (off := 195) mt_164 dX5_reads_22 (by decide) (by decide) (by decide +kernel) rfl
theorem e164_22_111 : Rn X d 164 22 LS (.int (zN 111) :: ST) M h = Rn X d 164 217 LS ST M h := s_tab (off := 195) mt_164 dX5_reads_22 (by decide) (by decide) (by decide +kernel) rfl
theorem e164_22_112 : Rn X d 164 22 LS (.int (zN 112) :: ST) M h = Rn X d 164 217 LS ST M h := s_tab (off := 195) mt_164 dX5_reads_22 (by decide) (by decide) (by decide +kernel) rfl
theorem e164_22_113 : Rn X d 164 22 LS (.int (zN 113) :: ST) M h = Rn X d 164 217 LS ST M h := s_tab (off := 195) mt_164 dX5_reads_22 (by decide) (by decide) (by decide +kernel) rfl
theorem e164_22_114 : Rn X d 164 22 LS (.int (zN 114) :: ST) M h = Rn X d 164 185 LS ST M h := s_tab (off := 163) mt_164 dX5_reads_22 (by decide) (by decide) (by decide +kernel) rfl
theorem e164_22_115 : Rn X d 164 22 LS (.int (zN 115) :: ST) M h = Rn X d 164 148 LS ST M h := s_tab (off := 126) mt_164 dX5_reads_22 (by decide) (by decide) (by decide +kernel) rfl
theorem e164_22_116 : Rn X d 164 22 LS (.int (zN 116) :: ST) M h = Rn X d 164 205 LS ST M h := s_tab (off := 183) mt_164 dX5_reads_22 (by decide) (by decide) (by decide +kernel) rfl
theorem e164_22_117 : Rn X d 164 22 LS (.int (zN 117) :: ST) M h = Rn X d 164 116 LS ST M h := s_tab (off := 94) mt_164 dX5_reads_22 (by decide) (by decide) (by decide +kernel) rfl
theorem e164_22_118 : Rn X d 164 22 LS (.int (zN 118) :: ST) M h = Rn X d 164 148 LS ST M h := s_tab (off := 126) mt_164 dX5_reads_22 (by decide) (by decide) (by decide +kernel) rfl
theorem e164_22_h {v : Nat} (h0 : v < 2147483648) (h1 : 118 < v) : Rn X d 164 22 LS (.int (zN v) :: ST) M h = Rn X d 164 217 LS ST M h := s_tabD mt_164 dX5_reads_22 rfl h0 (Or.inr (by omega))
theorem e164_22_l {v : Nat} (h1 : v < 99) : Rn X d 164 22 LS (.int (zN v) :: ST) M h = Rn X d 164 217 LS ST M h := s_tabD mt_164 dX5_reads_22 rfl (by omega) (Or.inl (by omega))
theorem e164_22_m {v : Nat} (h0 : v < 2147483648) : Rn X d 164 22 LS (.int (zM v) :: ST) M h = Rn X d 164 217 LS ST M h := s_tabM mt_164 dX5_reads_22 rfl (by decide) h0
theorem e164_116 : Rn X d 164 116 (some (.ref a) :: t) ST M h = Rn X d 164 117 (some (.ref a) :: t) (.ref a :: ST) M h := r_aload_n mt_164 dX5_reads_116 rfl
theorem e164_117 : Rn X d 164 117 (some (.ref a) :: t) ST M h = Rn X d 164 118 (some (.ref a) :: t) (.ref a :: ST) M h := r_aload_n mt_164 dX5_reads_117 rfl
theorem e164_118 : Rn X d 164 118 LS ST M h = Rn X d 164 120 LS (.int (zN 7) :: ST) M h := r_bipush mt_164 dX5_reads_118 c_bi7
theorem e164_120 (hcs : Nat.ble (j_cs ST) 8 = true) : Rn X (d + 1) 164 120 LS (.int x :: .ref a :: ST) M h = j_rc (M a) 5 (q_k X (Rn X d 161 0 [some (.ref a), some (.int x), none] [] M (j_h0 h)) h (d + 1) 164 123 LS ST) := s_callV mt_164 dX5_reads_120 cl_5_170 mt_161 rfl rfl (Nat.le_add_left _ _) rfl rfl rfl rfl hcs
theorem e164_123 : Rn X d 164 123 LS (.int x :: .ref a :: ST) M h = q_p X (M a) a 5 12 (.int x) d 164 126 LS ST M h := s_putN mt_164 dX5_reads_123 f_5_173 rfl rfl rfl
theorem e164_126 : Rn X d 164 126 (some (.ref a) :: t) ST M h = Rn X d 164 127 (some (.ref a) :: t) (.ref a :: ST) M h := r_aload_n mt_164 dX5_reads_126 rfl
theorem e164_127 : Rn X d 164 127 LS ST M h = Rn X d 164 128 LS (.int (zN 0) :: ST) M h := r_iconst mt_164 dX5_reads_127 c_ic0
theorem e164_128 : Rn X d 164 128 LS (.int x :: .ref a :: ST) M h = q_p X (M a) a 5 13 (.int x) d 164 131 LS ST M h := s_putN mt_164 dX5_reads_128 f_5_176 rfl rfl rfl
theorem e164_131 : Rn X d 164 131 (some (.ref a) :: t) ST M h = Rn X d 164 132 (some (.ref a) :: t) (.ref a :: ST) M h := r_aload_n mt_164 dX5_reads_131 rfl
theorem e164_132 : Rn X d 164 132 LS ST M h = Rn X d 164 134 LS (.int (zN 44) :: ST) M h := r_bipush mt_164 dX5_reads_132 c_bi44
theorem e164_134 (hcs : Nat.ble (j_cs ST) 8 = true) : Rn X (d + 1) 164 134 LS (.int x :: .ref a :: ST) M h = j_rc (M a) 5 (q_k X (Rn X d 160 0 [some (.ref a), some (.int x)] [] M (j_h0 h)) h (d + 1) 164 137 LS ST) := s_callV mt_164 dX5_reads_134 cl_5_179 mt_160 rfl rfl (Nat.le_add_left _ _) rfl rfl rfl rfl hcs
theorem e164_137 : Rn X d 164 137 (some (.ref a) :: t) ST M h = Rn X d 164 138 (some (.ref a) :: t) (.ref a :: ST) M h := r_aload_n mt_164 dX5_reads_137 rfl
theorem e164_138 : Rn X d 164 138 (some (.ref a) :: t) ST M h = Rn X d 164 139 (some (.ref a) :: t) (.ref a :: ST) M h := r_aload_n mt_164 dX5_reads_138 rfl
theorem e164_139 (hcs : Nat.ble (j_cs ST) 8 = true) : Rn X (d + 1) 164 139 LS (.ref a :: ST) M h = j_rc (M a) 5 (q_k X (Rn X d 163 0 [some (.ref a), none, none] [] M (j_h0 h)) h (d + 1) 164 142 LS ST) := s_callV mt_164 dX5_reads_139 cl_5_182 mt_163 rfl rfl (Nat.le_add_left _ _) rfl rfl rfl rfl hcs
theorem e164_142 : Rn X d 164 142 LS (.int x :: .ref a :: ST) M h = q_p X (M a) a 5 14 (.int x) d 164 145 LS ST M h := s_putN mt_164 dX5_reads_142 f_5_185 rfl rfl rfl
theorem e164_145 : Rn X d 164 145 LS ST M h = Rn X d 164 227 LS ST M h := r_goto mt_164 dX5_reads_145 rfl
theorem e164_148 : Rn X d 164 148 (some (.ref a) :: t) ST M h = Rn X d 164 149 (some (.ref a) :: t) (.ref a :: ST) M h := r_aload_n mt_164 dX5_reads_148 rfl
theorem e164_149 : Rn X d 164 149 (some (.ref a) :: t) ST M h = Rn X d 164 150 (some (.ref a) :: t) (.ref a :: ST) M h := r_aload_n mt_164 dX5_reads_149 rfl
theorem e164_150 : Rn X d 164 150 LS ST M h = Rn X d 164 152 LS (.int (zN 7) :: ST) M h := r_bipush mt_164 dX5_reads_150 c_bi7
theorem e164_152 (hcs : Nat.ble (j_cs ST) 8 = true) : Rn X (d + 1) 164 152 LS (.int x :: .ref a :: ST) M h = j_rc (M a) 5 (q_k X (Rn X d 161 0 [some (.ref a), some (.int x), none] [] M (j_h0 h)) h (d + 1) 164 155 LS ST) := s_callV mt_164 dX5_reads_152 cl_5_170 mt_161 rfl rfl (Nat.le_add_left _ _) rfl rfl rfl rfl hcs
theorem e164_155 : Rn X d 164 155 LS (.int x :: .ref a :: ST) M h = q_p X (M a) a 5 12 (.int x) d 164 158 LS ST M h := s_putN mt_164 dX5_reads_155 f_5_173 rfl rfl rfl
theorem e164_158 : Rn X d 164 158 (some (.ref a) :: t) ST M h = Rn X d 164 159 (some (.ref a) :: t) (.ref a :: ST) M h := r_aload_n mt_164 dX5_reads_158 rfl
theorem e164_159 : Rn X d 164 159 (some (.ref a) :: t) ST M h = Rn X d 164 160 (some (.ref a) :: t) (.ref a :: ST) M h := r_aload_n mt_164 dX5_reads_159 rfl
theorem e164_160 : Rn X d 164 160 LS ST M h = Rn X d 164 162 LS (.int (zN 7) :: ST) M h := r_bipush mt_164 dX5_reads_160 c_bi7
theorem e164_162 (hcs : Nat.ble (j_cs ST) 8 = true) : Rn X (d + 1) 164 162 LS (.int x :: .ref a :: ST) M h = j_rc (M a) 5 (q_k X (Rn X d 161 0 [some (.ref a), some (.int x), none] [] M (j_h0 h)) h (d + 1) 164 165 LS ST) := s_callV mt_164 dX5_reads_162 cl_5_170 mt_161 rfl rfl (Nat.le_add_left _ _) rfl rfl rfl rfl hcs
theorem e164_165 : Rn X d 164 165 LS (.int x :: .ref a :: ST) M h = q_p X (M a) a 5 13 (.int x) d 164 168 LS ST M h := s_putN mt_164 dX5_reads_165 f_5_176 rfl rfl rfl
theorem e164_168 : Rn X d 164 168 (some (.ref a) :: t) ST M h = Rn X d 164 169 (some (.ref a) :: t) (.ref a :: ST) M h := r_aload_n mt_164 dX5_reads_168 rfl
theorem e164_169 : Rn X d 164 169 LS ST M h = Rn X d 164 171 LS (.int (zN 44) :: ST) M h := r_bipush mt_164 dX5_reads_169 c_bi44
theorem e164_171 (hcs : Nat.ble (j_cs ST) 8 = true) : Rn X (d + 1) 164 171 LS (.int x :: .ref a :: ST) M h = j_rc (M a) 5 (q_k X (Rn X d 160 0 [some (.ref a), some (.int x)] [] M (j_h0 h)) h (d + 1) 164 174 LS ST) := s_callV mt_164 dX5_reads_171 cl_5_179 mt_160 rfl rfl (Nat.le_add_left _ _) rfl rfl rfl rfl hcs
theorem e164_174 : Rn X d 164 174 (some (.ref a) :: t) ST M h = Rn X d 164 175 (some (.ref a) :: t) (.ref a :: ST) M h := r_aload_n mt_164 dX5_reads_174 rfl
theorem e164_175 : Rn X d 164 175 (some (.ref a) :: t) ST M h = Rn X d 164 176 (some (.ref a) :: t) (.ref a :: ST) M h := r_aload_n mt_164 dX5_reads_175 rfl
theorem e164_176 (hcs : Nat.ble (j_cs ST) 8 = true) : Rn X (d + 1) 164 176 LS (.ref a :: ST) M h = j_rc (M a) 5 (q_k X (Rn X d 163 0 [some (.ref a), none, none] [] M (j_h0 h)) h (d + 1) 164 179 LS ST) := s_callV mt_164 dX5_reads_176 cl_5_182 mt_163 rfl rfl (Nat.le_add_left _ _) rfl rfl rfl rfl hcs
theorem e164_179 : Rn X d 164 179 LS (.int x :: .ref a :: ST) M h = q_p X (M a) a 5 14 (.int x) d 164 182 LS ST M h := s_putN mt_164 dX5_reads_179 f_5_185 rfl rfl rfl
theorem e164_182 : Rn X d 164 182 LS ST M h = Rn X d 164 227 LS ST M h := r_goto mt_164 dX5_reads_182 rfl
theorem e164_185 : Rn X d 164 185 (some (.ref a) :: t) ST M h = Rn X d 164 186 (some (.ref a) :: t) (.ref a :: ST) M h := r_aload_n mt_164 dX5_reads_185 rfl
theorem e164_186 : Rn X d 164 186 (some (.ref a) :: t) ST M h = Rn X d 164 187 (some (.ref a) :: t) (.ref a :: ST) M h := r_aload_n mt_164 dX5_reads_186 rfl
theorem e164_187 : Rn X d 164 187 LS ST M h = Rn X d 164 188 LS (.int (zN 1) :: ST) M h := r_iconst mt_164 dX5_reads_187 c_ic1
theorem e164_188 (hcs : Nat.ble (j_cs ST) 8 = true) : Rn X (d + 1) 164 188 LS (.int x :: .ref a :: ST) M h = j_rc (M a) 5 (q_k X (Rn X d 161 0 [some (.ref a), some (.int x), none] [] M (j_h0 h)) h (d + 1) 164 191 LS ST) := s_callV mt_164 dX5_reads_188 cl_5_170 mt_161 rfl rfl (Nat.le_add_left _ _) rfl rfl rfl rfl hcs
theorem e164_191 : Rn X d 164 191 LS (.int x :: .ref a :: ST) M h = q_p X (M a) a 5 12 (.int x) d 164 194 LS ST M h := s_putN mt_164 dX5_reads_191 f_5_173 rfl rfl rfl
theorem e164_194 : Rn X d 164 194 (some (.ref a) :: t) ST M h = Rn X d 164 195 (some (.ref a) :: t) (.ref a :: ST) M h := r_aload_n mt_164 dX5_reads_194 rfl
theorem e164_195 : Rn X d 164 195 (some (.ref a) :: t) ST M h = Rn X d 164 196 (some (.ref a) :: t) (.ref a :: ST) M h := r_aload_n mt_164 dX5_reads_195 rfl
theorem e164_196 (hcs : Nat.ble (j_cs ST) 8 = true) : Rn X (d + 1) 164 196 LS (.ref a :: ST) M h = j_rc (M a) 5 (q_k X (Rn X d 163 0 [some (.ref a), none, none] [] M (j_h0 h)) h (d + 1) 164 199 LS ST) := s_callV mt_164 dX5_reads_196 cl_5_182 mt_163 rfl rfl (Nat.le_add_left _ _) rfl rfl rfl rfl hcs
theorem e164_199 : Rn X d 164 199 LS (.int x :: .ref a :: ST) M h = q_p X (M a) a 5 14 (.int x) d 164 202 LS ST M h := s_putN mt_164 dX5_reads_199 f_5_185 rfl rfl rfl
theorem e164_202 : Rn X d 164 202 LS ST M h = Rn X d 164 227 LS ST M h := r_goto mt_164 dX5_reads_202 rfl
theorem e164_205 : Rn X d 164 205 (some (.ref a) :: t) ST M h = Rn X d 164 206 (some (.ref a) :: t) (.ref a :: ST) M h := r_aload_n mt_164 dX5_reads_205 rfl
theorem e164_206 : Rn X d 164 206 (some (.ref a) :: t) ST M h = Rn X d 164 207 (some (.ref a) :: t) (.ref a :: ST) M h := r_aload_n mt_164 dX5_reads_206 rfl
theorem e164_207 : Rn X d 164 207 LS ST M h = Rn X d 164 208 LS (.int (zN 1) :: ST) M h := r_iconst mt_164 dX5_reads_207 c_ic1
theorem e164_208 (hcs : Nat.ble (j_cs ST) 8 = true) : Rn X (d + 1) 164 208 LS (.int x :: .ref a :: ST) M h = j_rc (M a) 5 (q_k X (Rn X d 161 0 [some (.ref a), some (.int x), none] [] M (j_h0 h)) h (d + 1) 164 211 LS ST) := s_callV mt_164 dX5_reads_208 cl_5_170 mt_161 rfl rfl (Nat.le_add_left _ _) rfl rfl rfl rfl hcs
theorem e164_211 : Rn X d 164 211 LS (.int x :: .ref a :: ST) M h = q_p X (M a) a 5 12 (.int x) d 164 214 LS ST M h := s_putN mt_164 dX5_reads_211 f_5_173 rfl rfl rfl
theorem e164_214 : Rn X d 164 214 LS ST M h = Rn X d 164 227 LS ST M h := r_goto mt_164 dX5_reads_214 rfl
theorem e164_217 : Rn X d 164 217 (some (.ref a) :: t) ST M h = Rn X d 164 218 (some (.ref a) :: t) (.ref a :: ST) M h := r_aload_n mt_164 dX5_reads_217 rfl
theorem e164_218 : Rn X d 164 218 (some (.ref a) :: t) ST M h = Rn X d 164 219 (some (.ref a) :: t) (.ref a :: ST) M h := r_aload_n mt_164 dX5_reads_218 rfl
theorem e164_219 : Rn X d 164 219 LS (.ref a :: ST) M h = q_g X (M a) 5 9 d 164 222 LS ST M h := s_get mt_164 dX5_reads_219 f_5_152
theorem e164_222 : Rn X d 164 222 LS ST M h = Rn X d 164 223 LS (.int (zN 1) :: ST) M h := r_iconst mt_164 dX5_reads_222 c_ic1
theorem e164_223 : Rn X d 164 223 LS (.int y :: .int x :: ST) M h = Rn X d 164 224 LS (.int (x - y) :: ST) M h := r_isub mt_164 dX5_reads_223
theorem e164_224 (hcs : Nat.ble (j_cs ST) 8 = true) : Rn X (d + 1) 164 224 LS (.int x :: .ref a :: ST) M h = j_rc (M a) 5 (q_k X (Rn X d 159 0 [some (.ref a), some (.int x)] [] M (j_h0 h)) h (d + 1) 164 227 LS ST) := s_callV mt_164 dX5_reads_224 cl_5_161 mt_159 rfl rfl (Nat.le_add_left _ _) rfl rfl rfl rfl hcs
theorem e164_227 : Rn X d 164 227 (some (.ref a) :: t) ST M h = Rn X d 164 228 (some (.ref a) :: t) (.ref a :: ST) M h := r_aload_n mt_164 dX5_reads_227 rfl
theorem e164_228 : Rn X d 164 228 LS ST M h = Rn X d 164 230 LS (.int (zN 59) :: ST) M h := r_bipush mt_164 dX5_reads_228 c_bi59
theorem e164_230 (hcs : Nat.ble (j_cs ST) 8 = true) : Rn X (d + 1) 164 230 LS (.int x :: .ref a :: ST) M h = j_rc (M a) 5 (q_k X (Rn X d 160 0 [some (.ref a), some (.int x)] [] M (j_h0 h)) h (d + 1) 164 233 LS ST) := s_callV mt_164 dX5_reads_230 cl_5_179 mt_160 rfl rfl (Nat.le_add_left _ _) rfl rfl rfl rfl hcs
theorem e164_233 : Rn X d 164 233 LS [] M h = some (.inl none, M, h) := r_vret mt_164 dX5_reads_233 rfl
theorem e165_0 : Rn X d 165 0 (some (.ref a) :: t) ST M h = Rn X d 165 1 (some (.ref a) :: t) (.ref a :: ST) M h := r_aload_n mt_165 dX5_faultOf_0 rfl
theorem e165_1 : Rn X d 165 1 LS ST M h = Rn X d 165 2 LS (.int (zN 0) :: ST) M h := r_iconst mt_165 dX5_faultOf_1 c_ic0
theorem e165_2 : Rn X d 165 2 LS (.int x :: .ref a :: ST) M h = q_p X (M a) a 5 9 (.int x) d 165 5 LS ST M h := s_putN mt_165 dX5_faultOf_2 f_5_152 rfl rfl rfl
theorem e165_5 : Rn X d 165 5 (some (.ref a) :: t) ST M h = Rn X d 165 6 (some (.ref a) :: t) (.ref a :: ST) M h := r_aload_n mt_165 dX5_faultOf_5 rfl
theorem e165_6 : Rn X d 165 6 LS ST M h = Rn X d 165 7 LS (.int (zM 0) :: ST) M h := r_iconst mt_165 dX5_faultOf_6 c_icm1
theorem e165_7 : Rn X d 165 7 LS (.int x :: .ref a :: ST) M h = q_p X (M a) a 5 10 (.int x) d 165 10 LS ST M h := s_putN mt_165 dX5_faultOf_7 f_5_155 rfl rfl rfl
theorem e165_10 : Rn X d 165 10 (some (.ref a) :: t) ST M h = Rn X d 165 11 (some (.ref a) :: t) (.ref a :: ST) M h := r_aload_n mt_165 dX5_faultOf_10 rfl
theorem e165_11 : Rn X d 165 11 LS (.ref a :: ST) M h = q_g X (M a) 5 10 d 165 14 LS ST M h := s_get mt_165 dX5_faultOf_11 f_5_155
theorem e165_14 : Rn X d 165 14 LS ST M h = Rn X d 165 15 LS (.int (zM 0) :: ST) M h := r_iconst mt_165 dX5_faultOf_14 c_icm1
theorem e165_15 : Rn X d 165 15 LS (.int y :: .int x :: ST) M h = q_eq X x y d 165 18 36 LS ST M h := s_icne mt_165 dX5_faultOf_15 rfl
theorem e165_18 : Rn X d 165 18 (some (.ref a) :: t) ST M h = Rn X d 165 19 (some (.ref a) :: t) (.ref a :: ST) M h := r_aload_n mt_165 dX5_faultOf_18 rfl
theorem e165_19 : Rn X d 165 19 LS (.ref a :: ST) M h = q_g X (M a) 5 9 d 165 22 LS ST M h := s_get mt_165 dX5_faultOf_19 f_5_152
theorem e165_22 : Rn X d 165 22 (some (.ref a) :: t) ST M h = Rn X d 165 23 (some (.ref a) :: t) (.ref a :: ST) M h := r_aload_n mt_165 dX5_faultOf_22 rfl
theorem e165_23 : Rn X d 165 23 LS (.ref a :: ST) M h = q_g X (M a) 5 5 d 165 26 LS ST M h := s_get mt_165 dX5_faultOf_23 f_5_149
theorem e165_26 : Rn X d 165 26 LS (.int y :: .int x :: ST) M h = q_le X y x d 165 36 29 LS ST M h := s_icge mt_165 dX5_faultOf_26 rfl
theorem e165_29 : Rn X d 165 29 (some (.ref a) :: t) ST M h = Rn X d 165 30 (some (.ref a) :: t) (.ref a :: ST) M h := r_aload_n mt_165 dX5_faultOf_29 rfl
theorem e165_30 (hcs : Nat.ble (j_cs ST) 8 = true) : Rn X (d + 1) 165 30 LS (.ref a :: ST) M h = j_rc (M a) 5 (q_k X (Rn X d 164 0 [some (.ref a)] [] M (j_h0 h)) h (d + 1) 165 33 LS ST) := s_callV mt_165 dX5_faultOf_30 cl_5_188 mt_164 rfl rfl (Nat.le_add_left _ _) rfl rfl rfl rfl hcs
theorem e165_33 : Rn X d 165 33 LS ST M h = Rn X d 165 10 LS ST M h := r_goto mt_165 dX5_faultOf_33 rfl
theorem e165_36 : Rn X d 165 36 (some (.ref a) :: t) ST M h = Rn X d 165 37 (some (.ref a) :: t) (.ref a :: ST) M h := r_aload_n mt_165 dX5_faultOf_36 rfl
theorem e165_37 : Rn X d 165 37 LS (.ref a :: ST) M h = q_g X (M a) 5 10 d 165 40 LS ST M h := s_get mt_165 dX5_faultOf_37 f_5_155
theorem e165_40 : Rn X d 165 40 LS ([.int x]) M h = some (.inl (some (.int x)), M, h) := r_iret mt_165 dX5_faultOf_40 rfl
theorem e166_0 : Rn X d 166 0 (some (.ref a) :: t) ST M h = Rn X d 166 1 (some (.ref a) :: t) (.ref a :: ST) M h := r_aload_n mt_166 dX5_carries_0 rfl
theorem e166_1 : Rn X d 166 1 LS (.ref a :: ST) M h = q_g X (M a) 5 11 d 166 4 LS ST M h := s_get mt_166 dX5_carries_1 f_5_167
theorem e166_4_108 : Rn X d 166 4 LS (.int (zN 108) :: ST) M h = Rn X d 166 64 LS ST M h := s_tab (off := 60) mt_166 dX5_carries_4 (by decide) (by decide) (by decide +kernel) rfl
theorem e166_4_109 : Rn X d 166 4 LS (.int (zN 109) :: ST) M h = Rn X d 166 94 LS ST M h := s_tab (off := 90) mt_166 dX5_carries_4 (by decide) (by decide) (by decide +kernel) rfl
theorem e166_4_110 : Rn X d 166 4 LS (.int (zN 110) :: ST) M h = Rn X d 166 170 LS ST M h := s_tab (off := 166) mt_166 dX5_carries_4 (by decide) (by decide) (by decide +kernel) rfl
theorem e166_4_111 : Rn X d 166 4 LS (.int (zN 111) :: ST) M h = Rn X d 166 170 LS ST M h := s_tab (off := 166) mt_166 dX5_carries_4 (by decide) (by decide) (by decide +kernel) rfl
theorem e166_4_112 : Rn X d 166 4 LS (.int (zN 112) :: ST) M h = Rn X d 166 170 LS ST M h := s_tab (off := 166) mt_166 dX5_carries_4 (by decide) (by decide) (by decide +kernel) rfl
theorem e166_4_113 : Rn X d 166 4 LS (.int (zN 113) :: ST) M h = Rn X d 166 170 LS ST M h := s_tab (off := 166) mt_166 dX5_carries_4 (by decide) (by decide) (by decide +kernel) rfl
theorem e166_4_114 : Rn X d 166 4 LS (.int (zN 114) :: ST) M h = Rn X d 166 148 LS ST M h := s_tab (off := 144) mt_166 dX5_carries_4 (by decide) (by decide) (by decide +kernel) rfl
theorem e166_4_115 : Rn X d 166 4 LS (.int (zN 115) :: ST) M h = Rn X d 166 112 LS ST M h := s_tab (off := 108) mt_166 dX5_carries_4 (by decide) (by decide) (by decide +kernel) rfl
theorem e166_4_116 : Rn X d 166 4 LS (.int (zN 116) :: ST) M h = Rn X d 166 161 LS ST M h := s_tab (off := 157) mt_166 dX5_carries_4 (by decide) (by decide) (by decide +kernel) rfl
theorem e166_4_117 : Rn X d 166 4 LS (.int (zN 117) :: ST) M h = Rn X d 166 79 LS ST M h := s_tab (off := 75) mt_166 dX5_carries_4 (by decide) (by decide) (by decide +kernel) rfl
theorem e166_4_118 : Rn X d 166 4 LS (.int (zN 118) :: ST) M h = Rn X d 166 130 LS ST M h := s_tab (off := 126) mt_166 dX5_carries_4 (by decide) (by decide) (by decide +kernel) rfl
theorem e166_4_h {v : Nat} (h0 : v < 2147483648) (h1 : 118 < v) : Rn X d 166 4 LS (.int (zN v) :: ST) M h = Rn X d 166 170 LS ST M h := s_tabD mt_166 dX5_carries_4 rfl h0 (Or.inr (by omega))
theorem e166_4_l {v : Nat} (h1 : v < 108) : Rn X d 166 4 LS (.int (zN v) :: ST) M h = Rn X d 166 170 LS ST M h := s_tabD mt_166 dX5_carries_4 rfl (by omega) (Or.inl (by omega))
theorem e166_4_m {v : Nat} (h0 : v < 2147483648) : Rn X d 166 4 LS (.int (zM v) :: ST) M h = Rn X d 166 170 LS ST M h := s_tabM mt_166 dX5_carries_4 rfl (by decide) h0
theorem e166_64 : Rn X d 166 64 (some (.ref a) :: t) ST M h = Rn X d 166 65 (some (.ref a) :: t) (.ref a :: ST) M h := r_aload_n mt_166 dX5_carries_64 rfl
theorem e166_65 : Rn X d 166 65 LS ST M h = Rn X d 166 66 LS (.int (zN 0) :: ST) M h := r_iconst mt_166 dX5_carries_65 c_ic0
theorem e166_66 : Rn X d 166 66 (some (.ref a) :: t) ST M h = Rn X d 166 67 (some (.ref a) :: t) (.ref a :: ST) M h := r_aload_n mt_166 dX5_carries_66 rfl
theorem e166_67 : Rn X d 166 67 LS (.ref a :: ST) M h = q_g X (M a) 5 12 d 166 70 LS ST M h := s_get mt_166 dX5_carries_67 f_5_173
theorem e166_70 : Rn X d 166 70 LS ST M h = Rn X d 166 71 LS (.int (zN 0) :: ST) M h := r_iconst mt_166 dX5_carries_70 c_ic0
theorem e166_71 : Rn X d 166 71 (some (.ref a) :: t) ST M h = Rn X d 166 72 (some (.ref a) :: t) (.ref a :: ST) M h := r_aload_n mt_166 dX5_carries_71 rfl
theorem e166_72 : Rn X d 166 72 LS (.ref a :: ST) M h = q_g X (M a) 5 14 d 166 75 LS ST M h := s_get mt_166 dX5_carries_72 f_5_185
theorem e166_75 (hcs : Nat.ble (j_cs ST) 8 = true) : Rn X (d + 1) 166 75 LS (.int w :: .int z :: .int y :: .int x :: .ref a :: ST) M h = j_rc (M a) 5 (q_k X (Rn X d 122 0 [some (.ref a), some (.int x), some (.int y), some (.int z), some (.int w)] [] M (j_h0 h)) h (d + 1) 166 78 LS ST) := s_callV mt_166 dX5_carries_75 cl_5_94 mt_122 rfl rfl (Nat.le_add_left _ _) rfl rfl rfl rfl hcs
theorem e166_78 : Rn X d 166 78 LS ([.int x]) M h = some (.inl (some (.int x)), M, h) := r_iret mt_166 dX5_carries_78 rfl
theorem e166_79 : Rn X d 166 79 (some (.ref a) :: t) ST M h = Rn X d 166 80 (some (.ref a) :: t) (.ref a :: ST) M h := r_aload_n mt_166 dX5_carries_79 rfl
theorem e166_80 : Rn X d 166 80 LS ST M h = Rn X d 166 81 LS (.int (zN 1) :: ST) M h := r_iconst mt_166 dX5_carries_80 c_ic1
theorem e166_81 : Rn X d 166 81 (some (.ref a) :: t) ST M h = Rn X d 166 82 (some (.ref a) :: t) (.ref a :: ST) M h := r_aload_n mt_166 dX5_carries_81 rfl
theorem e166_82 : Rn X d 166 82 LS (.ref a :: ST) M h = q_g X (M a) 5 12 d 166 85 LS ST M h := s_get mt_166 dX5_carries_82 f_5_173
theorem e166_85 : Rn X d 166 85 LS ST M h = Rn X d 166 86 LS (.int (zN 0) :: ST) M h := r_iconst mt_166 dX5_carries_85 c_ic0
theorem e166_86 : Rn X d 166 86 (some (.ref a) :: t) ST M h = Rn X d 166 87 (some (.ref a) :: t) (.ref a :: ST) M h := r_aload_n mt_166 dX5_carries_86 rfl
theorem e166_87 : Rn X d 166 87 LS (.ref a :: ST) M h = q_g X (M a) 5 14 d 166 90 LS ST M h := s_get mt_166 dX5_carries_87 f_5_185
theorem e166_90 (hcs : Nat.ble (j_cs ST) 8 = true) : Rn X (d + 1) 166 90 LS (.int w :: .int z :: .int y :: .int x :: .ref a :: ST) M h = j_rc (M a) 5 (q_k X (Rn X d 122 0 [some (.ref a), some (.int x), some (.int y), some (.int z), some (.int w)] [] M (j_h0 h)) h (d + 1) 166 93 LS ST) := s_callV mt_166 dX5_carries_90 cl_5_94 mt_122 rfl rfl (Nat.le_add_left _ _) rfl rfl rfl rfl hcs
theorem e166_93 : Rn X d 166 93 LS ([.int x]) M h = some (.inl (some (.int x)), M, h) := r_iret mt_166 dX5_carries_93 rfl
theorem e166_94 : Rn X d 166 94 (some (.ref a) :: t) ST M h = Rn X d 166 95 (some (.ref a) :: t) (.ref a :: ST) M h := r_aload_n mt_166 dX5_carries_94 rfl
theorem e166_95 : Rn X d 166 95 LS ST M h = Rn X d 166 96 LS (.int (zN 2) :: ST) M h := r_iconst mt_166 dX5_carries_95 c_ic2
theorem e166_96 : Rn X d 166 96 (some (.ref a) :: t) ST M h = Rn X d 166 97 (some (.ref a) :: t) (.ref a :: ST) M h := r_aload_n mt_166 dX5_carries_96 rfl
theorem e166_97 : Rn X d 166 97 LS (.ref a :: ST) M h = q_g X (M a) 5 12 d 166 100 LS ST M h := s_get mt_166 dX5_carries_97 f_5_173
theorem e166_100 : Rn X d 166 100 (some (.ref a) :: t) ST M h = Rn X d 166 101 (some (.ref a) :: t) (.ref a :: ST) M h := r_aload_n mt_166 dX5_carries_100 rfl
theorem e166_101 : Rn X d 166 101 LS (.ref a :: ST) M h = q_g X (M a) 5 13 d 166 104 LS ST M h := s_get mt_166 dX5_carries_101 f_5_176
theorem e166_104 : Rn X d 166 104 (some (.ref a) :: t) ST M h = Rn X d 166 105 (some (.ref a) :: t) (.ref a :: ST) M h := r_aload_n mt_166 dX5_carries_104 rfl
theorem e166_105 : Rn X d 166 105 LS (.ref a :: ST) M h = q_g X (M a) 5 14 d 166 108 LS ST M h := s_get mt_166 dX5_carries_105 f_5_185
theorem e166_108 (hcs : Nat.ble (j_cs ST) 8 = true) : Rn X (d + 1) 166 108 LS (.int w :: .int z :: .int y :: .int x :: .ref a :: ST) M h = j_rc (M a) 5 (q_k X (Rn X d 122 0 [some (.ref a), some (.int x), some (.int y), some (.int z), some (.int w)] [] M (j_h0 h)) h (d + 1) 166 111 LS ST) := s_callV mt_166 dX5_carries_108 cl_5_94 mt_122 rfl rfl (Nat.le_add_left _ _) rfl rfl rfl rfl hcs
theorem e166_111 : Rn X d 166 111 LS ([.int x]) M h = some (.inl (some (.int x)), M, h) := r_iret mt_166 dX5_carries_111 rfl
theorem e166_112 : Rn X d 166 112 (some (.ref a) :: t) ST M h = Rn X d 166 113 (some (.ref a) :: t) (.ref a :: ST) M h := r_aload_n mt_166 dX5_carries_112 rfl
theorem e166_113 : Rn X d 166 113 LS ST M h = Rn X d 166 114 LS (.int (zN 3) :: ST) M h := r_iconst mt_166 dX5_carries_113 c_ic3
theorem e166_114 : Rn X d 166 114 (some (.ref a) :: t) ST M h = Rn X d 166 115 (some (.ref a) :: t) (.ref a :: ST) M h := r_aload_n mt_166 dX5_carries_114 rfl
theorem e166_115 : Rn X d 166 115 LS (.ref a :: ST) M h = q_g X (M a) 5 12 d 166 118 LS ST M h := s_get mt_166 dX5_carries_115 f_5_173
theorem e166_118 : Rn X d 166 118 (some (.ref a) :: t) ST M h = Rn X d 166 119 (some (.ref a) :: t) (.ref a :: ST) M h := r_aload_n mt_166 dX5_carries_118 rfl
theorem e166_119 : Rn X d 166 119 LS (.ref a :: ST) M h = q_g X (M a) 5 13 d 166 122 LS ST M h := s_get mt_166 dX5_carries_119 f_5_176
theorem e166_122 : Rn X d 166 122 (some (.ref a) :: t) ST M h = Rn X d 166 123 (some (.ref a) :: t) (.ref a :: ST) M h := r_aload_n mt_166 dX5_carries_122 rfl
theorem e166_123 : Rn X d 166 123 LS (.ref a :: ST) M h = q_g X (M a) 5 14 d 166 126 LS ST M h := s_get mt_166 dX5_carries_123 f_5_185
theorem e166_126 (hcs : Nat.ble (j_cs ST) 8 = true) : Rn X (d + 1) 166 126 LS (.int w :: .int z :: .int y :: .int x :: .ref a :: ST) M h = j_rc (M a) 5 (q_k X (Rn X d 122 0 [some (.ref a), some (.int x), some (.int y), some (.int z), some (.int w)] [] M (j_h0 h)) h (d + 1) 166 129 LS ST) := s_callV mt_166 dX5_carries_126 cl_5_94 mt_122 rfl rfl (Nat.le_add_left _ _) rfl rfl rfl rfl hcs
theorem e166_129 : Rn X d 166 129 LS ([.int x]) M h = some (.inl (some (.int x)), M, h) := r_iret mt_166 dX5_carries_129 rfl
theorem e166_130 : Rn X d 166 130 (some (.ref a) :: t) ST M h = Rn X d 166 131 (some (.ref a) :: t) (.ref a :: ST) M h := r_aload_n mt_166 dX5_carries_130 rfl
theorem e166_131 : Rn X d 166 131 LS ST M h = Rn X d 166 132 LS (.int (zN 4) :: ST) M h := r_iconst mt_166 dX5_carries_131 c_ic4
theorem e166_132 : Rn X d 166 132 (some (.ref a) :: t) ST M h = Rn X d 166 133 (some (.ref a) :: t) (.ref a :: ST) M h := r_aload_n mt_166 dX5_carries_132 rfl
theorem e166_133 : Rn X d 166 133 LS (.ref a :: ST) M h = q_g X (M a) 5 12 d 166 136 LS ST M h := s_get mt_166 dX5_carries_133 f_5_173
theorem e166_136 : Rn X d 166 136 (some (.ref a) :: t) ST M h = Rn X d 166 137 (some (.ref a) :: t) (.ref a :: ST) M h := r_aload_n mt_166 dX5_carries_136 rfl
theorem e166_137 : Rn X d 166 137 LS (.ref a :: ST) M h = q_g X (M a) 5 13 d 166 140 LS ST M h := s_get mt_166 dX5_carries_137 f_5_176
theorem e166_140 : Rn X d 166 140 (some (.ref a) :: t) ST M h = Rn X d 166 141 (some (.ref a) :: t) (.ref a :: ST) M h := r_aload_n mt_166 dX5_carries_140 rfl
theorem e166_141 : Rn X d 166 141 LS (.ref a :: ST) M h = q_g X (M a) 5 14 d 166 144 LS ST M h := s_get mt_166 dX5_carries_141 f_5_185
theorem e166_144 (hcs : Nat.ble (j_cs ST) 8 = true) : Rn X (d + 1) 166 144 LS (.int w :: .int z :: .int y :: .int x :: .ref a :: ST) M h = j_rc (M a) 5 (q_k X (Rn X d 122 0 [some (.ref a), some (.int x), some (.int y), some (.int z), some (.int w)] [] M (j_h0 h)) h (d + 1) 166 147 LS ST) := s_callV mt_166 dX5_carries_144 cl_5_94 mt_122 rfl rfl (Nat.le_add_left _ _) rfl rfl rfl rfl hcs
theorem e166_147 : Rn X d 166 147 LS ([.int x]) M h = some (.inl (some (.int x)), M, h) := r_iret mt_166 dX5_carries_147 rfl
theorem e166_148 : Rn X d 166 148 (some (.ref a) :: t) ST M h = Rn X d 166 149 (some (.ref a) :: t) (.ref a :: ST) M h := r_aload_n mt_166 dX5_carries_148 rfl
theorem e166_149 : Rn X d 166 149 (some (.ref a) :: t) ST M h = Rn X d 166 150 (some (.ref a) :: t) (.ref a :: ST) M h := r_aload_n mt_166 dX5_carries_149 rfl
theorem e166_150 : Rn X d 166 150 LS (.ref a :: ST) M h = q_g X (M a) 5 12 d 166 153 LS ST M h := s_get mt_166 dX5_carries_150 f_5_173
theorem e166_153 : Rn X d 166 153 (some (.ref a) :: t) ST M h = Rn X d 166 154 (some (.ref a) :: t) (.ref a :: ST) M h := r_aload_n mt_166 dX5_carries_153 rfl
theorem e166_154 : Rn X d 166 154 LS (.ref a :: ST) M h = q_g X (M a) 5 14 d 166 157 LS ST M h := s_get mt_166 dX5_carries_154 f_5_185
theorem e166_157 (hcs : Nat.ble (j_cs ST) 8 = true) : Rn X (d + 1) 166 157 LS (.int y :: .int x :: .ref a :: ST) M h = j_rc (M a) 5 (q_k X (Rn X d 123 0 [some (.ref a), some (.int x), some (.int y), none, none] [] M (j_h0 h)) h (d + 1) 166 160 LS ST) := s_callV mt_166 dX5_carries_157 cl_5_110 mt_123 rfl rfl (Nat.le_add_left _ _) rfl rfl rfl rfl hcs
theorem e166_160 : Rn X d 166 160 LS ([.int x]) M h = some (.inl (some (.int x)), M, h) := r_iret mt_166 dX5_carries_160 rfl
theorem e166_161 : Rn X d 166 161 (some (.ref a) :: t) ST M h = Rn X d 166 162 (some (.ref a) :: t) (.ref a :: ST) M h := r_aload_n mt_166 dX5_carries_161 rfl
theorem e166_162 : Rn X d 166 162 (some (.ref a) :: t) ST M h = Rn X d 166 163 (some (.ref a) :: t) (.ref a :: ST) M h := r_aload_n mt_166 dX5_carries_162 rfl
theorem e166_163 : Rn X d 166 163 LS (.ref a :: ST) M h = q_g X (M a) 5 12 d 166 166 LS ST M h := s_get mt_166 dX5_carries_163 f_5_173
theorem e166_166 (hcs : Nat.ble (j_cs ST) 8 = true) : Rn X (d + 1) 166 166 LS (.int x :: .ref a :: ST) M h = j_rc (M a) 5 (q_k X (Rn X d 124 0 [some (.ref a), some (.int x), none] [] M (j_h0 h)) h (d + 1) 166 169 LS ST) := s_callV mt_166 dX5_carries_166 cl_5_113 mt_124 rfl rfl (Nat.le_add_left _ _) rfl rfl rfl rfl hcs
theorem e166_169 : Rn X d 166 169 LS ([.int x]) M h = some (.inl (some (.int x)), M, h) := r_iret mt_166 dX5_carries_169 rfl
theorem e166_170 : Rn X d 166 170 (some (.ref a) :: t) ST M h = Rn X d 166 171 (some (.ref a) :: t) (.ref a :: ST) M h := r_aload_n mt_166 dX5_carries_170 rfl
theorem e166_171 : Rn X d 166 171 (some (.ref a) :: t) ST M h = Rn X d 166 172 (some (.ref a) :: t) (.ref a :: ST) M h := r_aload_n mt_166 dX5_carries_171 rfl
theorem e166_172 : Rn X d 166 172 LS (.ref a :: ST) M h = q_g X (M a) 5 12 d 166 175 LS ST M h := s_get mt_166 dX5_carries_172 f_5_173
theorem e166_175 (hcs : Nat.ble (j_cs ST) 8 = true) : Rn X (d + 1) 166 175 LS (.int x :: .ref a :: ST) M h = j_rc (M a) 5 (q_k X (Rn X d 125 0 [some (.ref a), some (.int x), none] [] M (j_h0 h)) h (d + 1) 166 178 LS ST) := s_callV mt_166 dX5_carries_175 cl_5_116 mt_125 rfl rfl (Nat.le_add_left _ _) rfl rfl rfl rfl hcs
theorem e166_178 : Rn X d 166 178 LS ([.int x]) M h = some (.inl (some (.int x)), M, h) := r_iret mt_166 dX5_carries_178 rfl
theorem e167_0 : Rn X d 167 0 (some (.ref a) :: t) ST M h = Rn X d 167 1 (some (.ref a) :: t) (.ref a :: ST) M h := r_aload_n mt_167 dX5_carryOut_0 rfl
theorem e167_1 (hcs : Nat.ble (j_cs ST) 8 = true) : Rn X (d + 1) 167 1 LS (.ref a :: ST) M h = j_rc (M a) 5 (q_k X (Rn X d 165 0 [some (.ref a)] [] M (j_h0 h)) h (d + 1) 167 4 LS ST) := s_callV mt_167 dX5_carryOut_1 cl_5_191 mt_165 rfl rfl (Nat.le_add_left _ _) rfl rfl rfl rfl hcs
theorem e167_4 : Rn X d 167 4 LS ST M h = Rn X d 167 5 LS (.int (zM 0) :: ST) M h := r_iconst mt_167 dX5_carryOut_4 c_icm1
theorem e167_5 : Rn X d 167 5 LS (.int y :: .int x :: ST) M h = q_eq X x y d 167 20 8 LS ST M h := s_iceq mt_167 dX5_carryOut_5 rfl
theorem e167_8 : Rn X d 167 8 (some (.ref a) :: t) ST M h = Rn X d 167 9 (some (.ref a) :: t) (.ref a :: ST) M h := r_aload_n mt_167 dX5_carryOut_8 rfl
theorem e167_9 : Rn X d 167 9 LS ST M h = Rn X d 167 11 LS (.int (zM 9) :: ST) M h := r_bipush mt_167 dX5_carryOut_9 c_bim10
theorem e167_11 : Rn X d 167 11 (some (.ref a) :: t) ST M h = Rn X d 167 12 (some (.ref a) :: t) (.ref a :: ST) M h := r_aload_n mt_167 dX5_carryOut_11 rfl
theorem e167_12 : Rn X d 167 12 LS (.ref a :: ST) M h = q_g X (M a) 5 10 d 167 15 LS ST M h := s_get mt_167 dX5_carryOut_12 f_5_155
theorem e167_15 : Rn X d 167 15 LS (.int y :: .int x :: ST) M h = Rn X d 167 16 LS (.int (x - y) :: ST) M h := r_isub mt_167 dX5_carryOut_15
theorem e167_16 (hcs : Nat.ble (j_cs ST) 8 = true) : Rn X (d + 1) 167 16 LS (.int x :: .ref a :: ST) M h = j_rc (M a) 5 (q_k X (Rn X d 103 0 [some (.ref a), some (.int x)] [] M (j_h0 h)) h (d + 1) 167 19 LS ST) := s_callV mt_167 dX5_carryOut_16 cl_5_54 mt_103 rfl rfl (Nat.le_add_left _ _) rfl rfl rfl rfl hcs
theorem e167_19 : Rn X d 167 19 LS ([.int x]) M h = some (.inl (some (.int x)), M, h) := r_iret mt_167 dX5_carryOut_19 rfl
theorem e167_20 : Rn X d 167 20 (some (.ref a) :: t) ST M h = Rn X d 167 21 (some (.ref a) :: t) (.ref a :: ST) M h := r_aload_n mt_167 dX5_carryOut_20 rfl
theorem e167_21 (hcs : Nat.ble (j_cs ST) 8 = true) : Rn X (d + 1) 167 21 LS (.ref a :: ST) M h = j_rc (M a) 5 (q_k X (Rn X d 114 0 [some (.ref a), none] [] M (j_h0 h)) h (d + 1) 167 24 LS ST) := s_callV mt_167 dX5_carryOut_21 cl_5_91 mt_114 rfl rfl (Nat.le_add_left _ _) rfl rfl rfl rfl hcs
theorem e167_24 : Rn X d 167 24 (some (.ref a) :: t) ST M h = Rn X d 167 25 (some (.ref a) :: t) (.ref a :: ST) M h := r_aload_n mt_167 dX5_carryOut_24 rfl
theorem e167_25 (hcs : Nat.ble (j_cs ST) 8 = true) : Rn X (d + 1) 167 25 LS (.ref a :: ST) M h = j_rc (M a) 5 (q_k X (Rn X d 115 0 [some (.ref a), none] [] M (j_h0 h)) h (d + 1) 167 28 LS ST) := s_callV mt_167 dX5_carryOut_25 cl_5_48 mt_115 rfl rfl (Nat.le_add_left _ _) rfl rfl rfl rfl hcs
theorem e167_28 : Rn X d 167 28 LS ST M h = Rn X d 167 29 LS (.int (zN 0) :: ST) M h := r_iconst mt_167 dX5_carryOut_28 c_ic0
theorem e167_29 (ho : j_one l0 = true) : Rn X d 167 29 (l0 :: l1 :: t) (.int x :: ST) M h = Rn X d 167 30 (l0 :: some (.int x) :: t) ST M h := r_istore_n mt_167 dX5_carryOut_29 (by show 1 < _; simp only [List.length_cons]; omega) ho rfl
theorem e167_30 : Rn X d 167 30 (some (.ref a) :: t) ST M h = Rn X d 167 31 (some (.ref a) :: t) (.ref a :: ST) M h := r_aload_n mt_167 dX5_carryOut_30 rfl
theorem e167_31 : Rn X d 167 31 LS ST M h = Rn X d 167 32 LS (.int (zN 0) :: ST) M h := r_iconst mt_167 dX5_carryOut_31 c_ic0
theorem e167_32 : Rn X d 167 32 LS (.int x :: .ref a :: ST) M h = q_p X (M a) a 5 9 (.int x) d 167 35 LS ST M h := s_putN mt_167 dX5_carryOut_32 f_5_152 rfl rfl rfl
theorem e167_35 : Rn X d 167 35 (some (.ref a) :: t) ST M h = Rn X d 167 36 (some (.ref a) :: t) (.ref a :: ST) M h := r_aload_n mt_167 dX5_carryOut_35 rfl
theorem e167_36 : Rn X d 167 36 LS (.ref a :: ST) M h = q_g X (M a) 5 9 d 167 39 LS ST M h := s_get mt_167 dX5_carryOut_36 f_5_152
theorem e167_39 : Rn X d 167 39 (some (.ref a) :: t) ST M h = Rn X d 167 40 (some (.ref a) :: t) (.ref a :: ST) M h := r_aload_n mt_167 dX5_carryOut_39 rfl
theorem e167_40 : Rn X d 167 40 LS (.ref a :: ST) M h = q_g X (M a) 5 5 d 167 43 LS ST M h := s_get mt_167 dX5_carryOut_40 f_5_149
theorem e167_43 : Rn X d 167 43 LS (.int y :: .int x :: ST) M h = q_le X y x d 167 50 46 LS ST M h := s_icge mt_167 dX5_carryOut_43 rfl
theorem e167_46 : Rn X d 167 46 LS ST M h = Rn X d 167 47 LS (.int (zN 1) :: ST) M h := r_iconst mt_167 dX5_carryOut_46 c_ic1
theorem e167_47 : Rn X d 167 47 LS ST M h = Rn X d 167 51 LS ST M h := r_goto mt_167 dX5_carryOut_47 rfl
theorem e167_50 : Rn X d 167 50 LS ST M h = Rn X d 167 51 LS (.int (zN 0) :: ST) M h := r_iconst mt_167 dX5_carryOut_50 c_ic0
theorem e167_51 (ho : j_one l1 = true) : Rn X d 167 51 (l0 :: l1 :: l2 :: t) (.int x :: ST) M h = Rn X d 167 52 (l0 :: l1 :: some (.int x) :: t) ST M h := r_istore_n mt_167 dX5_carryOut_51 (by show 2 < _; simp only [List.length_cons]; omega) ho rfl
theorem e167_52 : Rn X d 167 52 (l0 :: l1 :: some (.int x) :: t) ST M h = Rn X d 167 53 (l0 :: l1 :: some (.int x) :: t) (.int x :: ST) M h := r_iload_n mt_167 dX5_carryOut_52 rfl
theorem e167_53 : Rn X d 167 53 LS (.int x :: ST) M h = q_eq X x (zN 0) d 167 109 56 LS ST M h := s_ifeq mt_167 dX5_carryOut_53 rfl
theorem e167_56 : Rn X d 167 56 (some (.ref a) :: t) ST M h = Rn X d 167 57 (some (.ref a) :: t) (.ref a :: ST) M h := r_aload_n mt_167 dX5_carryOut_56 rfl
theorem e167_57 (hcs : Nat.ble (j_cs ST) 8 = true) : Rn X (d + 1) 167 57 LS (.ref a :: ST) M h = j_rc (M a) 5 (q_k X (Rn X d 164 0 [some (.ref a)] [] M (j_h0 h)) h (d + 1) 167 60 LS ST) := s_callV mt_167 dX5_carryOut_57 cl_5_188 mt_164 rfl rfl (Nat.le_add_left _ _) rfl rfl rfl rfl hcs
theorem e167_60 : Rn X d 167 60 (some (.ref a) :: t) ST M h = Rn X d 167 61 (some (.ref a) :: t) (.ref a :: ST) M h := r_aload_n mt_167 dX5_carryOut_60 rfl
theorem e167_61 (hcs : Nat.ble (j_cs ST) 8 = true) : Rn X (d + 1) 167 61 LS (.ref a :: ST) M h = j_rc (M a) 5 (q_k X (Rn X d 166 0 [some (.ref a)] [] M (j_h0 h)) h (d + 1) 167 64 LS ST) := s_callV mt_167 dX5_carryOut_61 cl_5_194 mt_166 rfl rfl (Nat.le_add_left _ _) rfl rfl rfl rfl hcs
theorem e167_64 : Rn X d 167 64 LS (.int x :: ST) M h = q_eq X x (zN 0) d 167 67 71 LS ST M h := s_ifne mt_167 dX5_carryOut_64 rfl
theorem e167_67 : Rn X d 167 67 LS ST M h = Rn X d 167 68 LS (.int (zN 1) :: ST) M h := r_iconst mt_167 dX5_carryOut_67 c_ic1
theorem e167_68 : Rn X d 167 68 LS ST M h = Rn X d 167 72 LS ST M h := r_goto mt_167 dX5_carryOut_68 rfl
theorem e167_71 : Rn X d 167 71 LS ST M h = Rn X d 167 72 LS (.int (zN 0) :: ST) M h := r_iconst mt_167 dX5_carryOut_71 c_ic0
theorem e167_72 (ho : j_one l1 = true) : Rn X d 167 72 (l0 :: l1 :: l2 :: t) (.int x :: ST) M h = Rn X d 167 73 (l0 :: l1 :: some (.int x) :: t) ST M h := r_istore_n mt_167 dX5_carryOut_72 (by show 2 < _; simp only [List.length_cons]; omega) ho rfl
theorem e167_73 : Rn X d 167 73 (l0 :: some (.int x) :: t) ST M h = Rn X d 167 74 (l0 :: some (.int x) :: t) (.int x :: ST) M h := r_iload_n mt_167 dX5_carryOut_73 rfl
theorem e167_74 : Rn X d 167 74 (l0 :: l1 :: some (.int x) :: t) ST M h = Rn X d 167 75 (l0 :: l1 :: some (.int x) :: t) (.int x :: ST) M h := r_iload_n mt_167 dX5_carryOut_74 rfl
theorem e167_75 : Rn X d 167 75 LS (.int x :: ST) M h = q_eq X x (zN 0) d 167 82 78 LS ST M h := s_ifeq mt_167 dX5_carryOut_75 rfl
theorem e167_78 : Rn X d 167 78 LS ST M h = Rn X d 167 79 LS (.int (zN 1) :: ST) M h := r_iconst mt_167 dX5_carryOut_78 c_ic1
theorem e167_79 : Rn X d 167 79 LS ST M h = Rn X d 167 83 LS ST M h := r_goto mt_167 dX5_carryOut_79 rfl
theorem e167_82 : Rn X d 167 82 LS ST M h = Rn X d 167 83 LS (.int (zN 0) :: ST) M h := r_iconst mt_167 dX5_carryOut_82 c_ic0
theorem e167_83 : Rn X d 167 83 LS (.int y :: .int x :: ST) M h = Rn X d 167 84 LS (.int (x + y) :: ST) M h := r_iadd mt_167 dX5_carryOut_83
theorem e167_84 (ho : j_one l0 = true) : Rn X d 167 84 (l0 :: l1 :: t) (.int x :: ST) M h = Rn X d 167 85 (l0 :: some (.int x) :: t) ST M h := r_istore_n mt_167 dX5_carryOut_84 (by show 1 < _; simp only [List.length_cons]; omega) ho rfl
theorem e167_85 : Rn X d 167 85 (l0 :: l1 :: some (.int x) :: t) ST M h = Rn X d 167 86 (l0 :: l1 :: some (.int x) :: t) (.int x :: ST) M h := r_iload_n mt_167 dX5_carryOut_85 rfl
theorem e167_86 : Rn X d 167 86 LS (.int x :: ST) M h = q_eq X x (zN 0) d 167 104 89 LS ST M h := s_ifeq mt_167 dX5_carryOut_86 rfl
theorem e167_89 : Rn X d 167 89 (some (.ref a) :: t) ST M h = Rn X d 167 90 (some (.ref a) :: t) (.ref a :: ST) M h := r_aload_n mt_167 dX5_carryOut_89 rfl
theorem e167_90 : Rn X d 167 90 LS (.ref a :: ST) M h = q_g X (M a) 5 9 d 167 93 LS ST M h := s_get mt_167 dX5_carryOut_90 f_5_152
theorem e167_93 : Rn X d 167 93 (some (.ref a) :: t) ST M h = Rn X d 167 94 (some (.ref a) :: t) (.ref a :: ST) M h := r_aload_n mt_167 dX5_carryOut_93 rfl
theorem e167_94 : Rn X d 167 94 LS (.ref a :: ST) M h = q_g X (M a) 5 5 d 167 97 LS ST M h := s_get mt_167 dX5_carryOut_94 f_5_149
theorem e167_97 : Rn X d 167 97 LS (.int y :: .int x :: ST) M h = q_le X y x d 167 104 100 LS ST M h := s_icge mt_167 dX5_carryOut_97 rfl
theorem e167_100 : Rn X d 167 100 LS ST M h = Rn X d 167 101 LS (.int (zN 1) :: ST) M h := r_iconst mt_167 dX5_carryOut_100 c_ic1
theorem e167_101 : Rn X d 167 101 LS ST M h = Rn X d 167 105 LS ST M h := r_goto mt_167 dX5_carryOut_101 rfl
theorem e167_104 : Rn X d 167 104 LS ST M h = Rn X d 167 105 LS (.int (zN 0) :: ST) M h := r_iconst mt_167 dX5_carryOut_104 c_ic0
theorem e167_105 (ho : j_one l1 = true) : Rn X d 167 105 (l0 :: l1 :: l2 :: t) (.int x :: ST) M h = Rn X d 167 106 (l0 :: l1 :: some (.int x) :: t) ST M h := r_istore_n mt_167 dX5_carryOut_105 (by show 2 < _; simp only [List.length_cons]; omega) ho rfl
theorem e167_106 : Rn X d 167 106 LS ST M h = Rn X d 167 52 LS ST M h := r_goto mt_167 dX5_carryOut_106 rfl
theorem e167_109 : Rn X d 167 109 (some (.ref a) :: t) ST M h = Rn X d 167 110 (some (.ref a) :: t) (.ref a :: ST) M h := r_aload_n mt_167 dX5_carryOut_109 rfl
theorem e167_110 : Rn X d 167 110 (l0 :: some (.int x) :: t) ST M h = Rn X d 167 111 (l0 :: some (.int x) :: t) (.int x :: ST) M h := r_iload_n mt_167 dX5_carryOut_110 rfl
theorem e167_111 (hcs : Nat.ble (j_cs ST) 8 = true) : Rn X (d + 1) 167 111 LS (.int x :: .ref a :: ST) M h = j_rc (M a) 5 (q_k X (Rn X d 103 0 [some (.ref a), some (.int x)] [] M (j_h0 h)) h (d + 1) 167 114 LS ST) := s_callV mt_167 dX5_carryOut_111 cl_5_54 mt_103 rfl rfl (Nat.le_add_left _ _) rfl rfl rfl rfl hcs
theorem e167_114 : Rn X d 167 114 LS ([.int x]) M h = some (.inl (some (.int x)), M, h) := r_iret mt_167 dX5_carryOut_114 rfl
theorem e168_0 : Rn X d 168 0 (some (.ref a) :: t) ST M h = Rn X d 168 1 (some (.ref a) :: t) (.ref a :: ST) M h := r_aload_n mt_168 dX5_hashes_0 rfl
theorem e168_1 : Rn X d 168 1 LS ST M h = Rn X d 168 4 LS (.long 31 :: ST) M h := r_ldc2_w mt_168 dX5_hashes_1 kj_5_197
theorem e168_4 : Rn X d 168 4 (some (.ref a) :: t) ST M h = Rn X d 168 5 (some (.ref a) :: t) (.ref a :: ST) M h := r_aload_n mt_168 dX5_hashes_4 rfl
theorem e168_5 : Rn X d 168 5 LS (.ref a :: ST) M h = q_g X (M a) 5 15 d 168 8 LS ST M h := s_get mt_168 dX5_hashes_5 f_5_199
theorem e168_8 : Rn X d 168 8 LS (.long q :: .long p :: ST) M h = Rn X d 168 9 LS (.long (p * q) :: ST) M h := r_lmul mt_168 dX5_hashes_8
theorem e168_9 : Rn X d 168 9 (l0 :: some (.int x) :: t) ST M h = Rn X d 168 10 (l0 :: some (.int x) :: t) (.int x :: ST) M h := r_iload_n mt_168 dX5_hashes_9 rfl
theorem e168_10 : Rn X d 168 10 LS (.int x :: ST) M h = Rn X d 168 11 LS (.long x.toInt64 :: ST) M h := r_i2l mt_168 dX5_hashes_10
theorem e168_11 : Rn X d 168 11 LS (.long q :: .long p :: ST) M h = Rn X d 168 12 LS (.long (p + q) :: ST) M h := r_ladd mt_168 dX5_hashes_11
theorem e168_12 : Rn X d 168 12 LS (.long p :: .ref a :: ST) M h = q_p X (M a) a 5 15 (.long p) d 168 15 LS ST M h := s_putN mt_168 dX5_hashes_12 f_5_199 rfl rfl rfl
theorem e168_15 : Rn X d 168 15 LS [] M h = some (.inl none, M, h) := r_vret mt_168 dX5_hashes_15 rfl
theorem e169_0 : Rn X d 169 0 (some (.ref a) :: t) ST M h = Rn X d 169 1 (some (.ref a) :: t) (.ref a :: ST) M h := r_aload_n mt_169 dX5_digest_0 rfl
theorem e169_1 : Rn X d 169 1 LS ST M h = Rn X d 169 2 LS (.int (zN 0) :: ST) M h := r_iconst mt_169 dX5_digest_1 c_ic0
theorem e169_2 : Rn X d 169 2 LS (.int x :: .ref a :: ST) M h = q_p X (M a) a 5 7 (.int x) d 169 5 LS ST M h := s_putN mt_169 dX5_digest_2 f_5_29 rfl rfl rfl
theorem e169_5 : Rn X d 169 5 (some (.ref a) :: t) ST M h = Rn X d 169 6 (some (.ref a) :: t) (.ref a :: ST) M h := r_aload_n mt_169 dX5_digest_5 rfl
theorem e169_6 : Rn X d 169 6 LS ST M h = Rn X d 169 9 LS (.long 3797 :: ST) M h := r_ldc2_w mt_169 dX5_digest_6 kj_5_203
theorem e169_9 : Rn X d 169 9 LS (.long p :: .ref a :: ST) M h = q_p X (M a) a 5 15 (.long p) d 169 12 LS ST M h := s_putN mt_169 dX5_digest_9 f_5_199 rfl rfl rfl
theorem e169_12 : Rn X d 169 12 (some (.ref a) :: t) ST M h = Rn X d 169 13 (some (.ref a) :: t) (.ref a :: ST) M h := r_aload_n mt_169 dX5_digest_12 rfl
theorem e169_13 : Rn X d 169 13 (some (.ref a) :: t) ST M h = Rn X d 169 14 (some (.ref a) :: t) (.ref a :: ST) M h := r_aload_n mt_169 dX5_digest_13 rfl
theorem e169_14 : Rn X d 169 14 LS (.ref a :: ST) M h = q_g X (M a) 5 5 d 169 17 LS ST M h := s_get mt_169 dX5_digest_14 f_5_149
theorem e169_17 (hcs : Nat.ble (j_cs ST) 8 = true) : Rn X (d + 1) 169 17 LS (.int x :: .ref a :: ST) M h = j_rc (M a) 5 (q_k X (Rn X d 168 0 [some (.ref a), some (.int x)] [] M (j_h0 h)) h (d + 1) 169 20 LS ST) := s_callV mt_169 dX5_digest_17 cl_5_205 mt_168 rfl rfl (Nat.le_add_left _ _) rfl rfl rfl rfl hcs
theorem e169_20 : Rn X d 169 20 LS ST M h = Rn X d 169 21 LS (.int (zN 0) :: ST) M h := r_iconst mt_169 dX5_digest_20 c_ic0
theorem e169_21 (ho : j_one l0 = true) : Rn X d 169 21 (l0 :: l1 :: t) (.int x :: ST) M h = Rn X d 169 22 (l0 :: some (.int x) :: t) ST M h := r_istore_n mt_169 dX5_digest_21 (by show 1 < _; simp only [List.length_cons]; omega) ho rfl
theorem e169_22 : Rn X d 169 22 (l0 :: some (.int x) :: t) ST M h = Rn X d 169 23 (l0 :: some (.int x) :: t) (.int x :: ST) M h := r_iload_n mt_169 dX5_digest_22 rfl
theorem e169_23 : Rn X d 169 23 LS ST M h = Rn X d 169 25 LS (.int (zN 7) :: ST) M h := r_bipush mt_169 dX5_digest_23 c_bi7
theorem e169_25 : Rn X d 169 25 LS (.int y :: .int x :: ST) M h = q_le X y x d 169 43 28 LS ST M h := s_icge mt_169 dX5_digest_25 rfl
theorem e169_28 : Rn X d 169 28 (some (.ref a) :: t) ST M h = Rn X d 169 29 (some (.ref a) :: t) (.ref a :: ST) M h := r_aload_n mt_169 dX5_digest_28 rfl
theorem e169_29 : Rn X d 169 29 (some (.ref a) :: t) ST M h = Rn X d 169 30 (some (.ref a) :: t) (.ref a :: ST) M h := r_aload_n mt_169 dX5_digest_29 rfl
theorem e169_30 : Rn X d 169 30 (l0 :: some (.int x) :: t) ST M h = Rn X d 169 31 (l0 :: some (.int x) :: t) (.int x :: ST) M h := r_iload_n mt_169 dX5_digest_30 rfl
theorem e169_31 (hcs : Nat.ble (j_cs ST) 8 = true) : Rn X (d + 1) 169 31 LS (.int x :: .ref a :: ST) M h = j_rc (M a) 5 (q_k X (Rn X d 142 0 [some (.ref a), some (.int x)] [] M (j_h0 h)) h (d + 1) 169 34 LS ST) := s_callV mt_169 dX5_digest_31 cl_5_129 mt_142 rfl rfl (Nat.le_add_left _ _) rfl rfl rfl rfl hcs
theorem e169_34 (hcs : Nat.ble (j_cs ST) 8 = true) : Rn X (d + 1) 169 34 LS (.int x :: .ref a :: ST) M h = j_rc (M a) 5 (q_k X (Rn X d 168 0 [some (.ref a), some (.int x)] [] M (j_h0 h)) h (d + 1) 169 37 LS ST) := s_callV mt_169 dX5_digest_34 cl_5_205 mt_168 rfl rfl (Nat.le_add_left _ _) rfl rfl rfl rfl hcs
theorem e169_37 (ho : j_one l0 = true) : Rn X d 169 37 (l0 :: some (.int x) :: t) ST M h = Rn X d 169 40 (l0 :: some (.int (x + (zN 1))) :: t) ST M h := r_iinc mt_169 dX5_digest_37 rfl (by simp only [List.length_cons]; omega) ho c_ic1 rfl
theorem e169_40 : Rn X d 169 40 LS ST M h = Rn X d 169 22 LS ST M h := r_goto mt_169 dX5_digest_40 rfl
theorem e169_43 : Rn X d 169 43 (some (.ref a) :: t) ST M h = Rn X d 169 44 (some (.ref a) :: t) (.ref a :: ST) M h := r_aload_n mt_169 dX5_digest_43 rfl
theorem e169_44 : Rn X d 169 44 LS (.ref a :: ST) M h = q_g X (M a) 5 0 d 169 47 LS ST M h := s_get mt_169 dX5_digest_44 f_5_7
theorem e169_47 : Rn X d 169 47 LS ST M h = Rn X d 169 48 LS (.int (zN 1) :: ST) M h := r_iconst mt_169 dX5_digest_47 c_ic1
theorem e169_48 : Rn X d 169 48 LS (.int x :: .ref a :: ST) M h = q_ld X (M a) a x d 169 49 LS ST M h := s_iald mt_169 dX5_digest_48
theorem e169_49 (ho : j_one l0 = true) : Rn X d 169 49 (l0 :: l1 :: t) (.int x :: ST) M h = Rn X d 169 50 (l0 :: some (.int x) :: t) ST M h := r_istore_n mt_169 dX5_digest_49 (by show 1 < _; simp only [List.length_cons]; omega) ho rfl
theorem e169_50 : Rn X d 169 50 (l0 :: some (.int x) :: t) ST M h = Rn X d 169 51 (l0 :: some (.int x) :: t) (.int x :: ST) M h := r_iload_n mt_169 dX5_digest_50 rfl
theorem e169_51 : Rn X d 169 51 (some (.ref a) :: t) ST M h = Rn X d 169 52 (some (.ref a) :: t) (.ref a :: ST) M h := r_aload_n mt_169 dX5_digest_51 rfl
theorem e169_52 : Rn X d 169 52 LS (.ref a :: ST) M h = q_g X (M a) 5 0 d 169 55 LS ST M h := s_get mt_169 dX5_digest_52 f_5_7
theorem e169_55 : Rn X d 169 55 LS ST M h = Rn X d 169 56 LS (.int (zN 2) :: ST) M h := r_iconst mt_169 dX5_digest_55 c_ic2
theorem e169_56 : Rn X d 169 56 LS (.int x :: .ref a :: ST) M h = q_ld X (M a) a x d 169 57 LS ST M h := s_iald mt_169 dX5_digest_56
theorem e169_57 : Rn X d 169 57 LS (.int y :: .int x :: ST) M h = q_le X y x d 169 90 60 LS ST M h := s_icge mt_169 dX5_digest_57 rfl
theorem e169_60 : Rn X d 169 60 LS ST M h = Rn X d 169 61 LS (.int (zN 0) :: ST) M h := r_iconst mt_169 dX5_digest_60 c_ic0
theorem e169_61 (ho : j_one l1 = true) : Rn X d 169 61 (l0 :: l1 :: l2 :: t) (.int x :: ST) M h = Rn X d 169 62 (l0 :: l1 :: some (.int x) :: t) ST M h := r_istore_n mt_169 dX5_digest_61 (by show 2 < _; simp only [List.length_cons]; omega) ho rfl
theorem e169_62 : Rn X d 169 62 (l0 :: l1 :: some (.int x) :: t) ST M h = Rn X d 169 63 (l0 :: l1 :: some (.int x) :: t) (.int x :: ST) M h := r_iload_n mt_169 dX5_digest_62 rfl
theorem e169_63 : Rn X d 169 63 LS ST M h = Rn X d 169 65 LS (.int (zN 6) :: ST) M h := r_bipush mt_169 dX5_digest_63 c_bi6
theorem e169_65 : Rn X d 169 65 LS (.int y :: .int x :: ST) M h = q_le X y x d 169 84 68 LS ST M h := s_icge mt_169 dX5_digest_65 rfl
theorem e169_68 : Rn X d 169 68 (some (.ref a) :: t) ST M h = Rn X d 169 69 (some (.ref a) :: t) (.ref a :: ST) M h := r_aload_n mt_169 dX5_digest_68 rfl
theorem e169_69 : Rn X d 169 69 (some (.ref a) :: t) ST M h = Rn X d 169 70 (some (.ref a) :: t) (.ref a :: ST) M h := r_aload_n mt_169 dX5_digest_69 rfl
theorem e169_70 : Rn X d 169 70 (l0 :: some (.int x) :: t) ST M h = Rn X d 169 71 (l0 :: some (.int x) :: t) (.int x :: ST) M h := r_iload_n mt_169 dX5_digest_70 rfl
theorem e169_71 : Rn X d 169 71 (l0 :: l1 :: some (.int x) :: t) ST M h = Rn X d 169 72 (l0 :: l1 :: some (.int x) :: t) (.int x :: ST) M h := r_iload_n mt_169 dX5_digest_71 rfl
theorem e169_72 (hcs : Nat.ble (j_cs ST) 8 = true) : Rn X (d + 1) 169 72 LS (.int y :: .int x :: .ref a :: ST) M h = j_rc (M a) 5 (q_k X (Rn X d 136 0 [some (.ref a), some (.int x), some (.int y)] [] M (j_h0 h)) h (d + 1) 169 75 LS ST) := s_callV mt_169 dX5_digest_72 cl_5_119 mt_136 rfl rfl (Nat.le_add_left _ _) rfl rfl rfl rfl hcs
theorem e169_75 (hcs : Nat.ble (j_cs ST) 8 = true) : Rn X (d + 1) 169 75 LS (.int x :: .ref a :: ST) M h = j_rc (M a) 5 (q_k X (Rn X d 168 0 [some (.ref a), some (.int x)] [] M (j_h0 h)) h (d + 1) 169 78 LS ST) := s_callV mt_169 dX5_digest_75 cl_5_205 mt_168 rfl rfl (Nat.le_add_left _ _) rfl rfl rfl rfl hcs
theorem e169_78 (ho : j_one l1 = true) : Rn X d 169 78 (l0 :: l1 :: some (.int x) :: t) ST M h = Rn X d 169 81 (l0 :: l1 :: some (.int (x + (zN 1))) :: t) ST M h := r_iinc mt_169 dX5_digest_78 rfl (by simp only [List.length_cons]; omega) ho c_ic1 rfl
theorem e169_81 : Rn X d 169 81 LS ST M h = Rn X d 169 62 LS ST M h := r_goto mt_169 dX5_digest_81 rfl
theorem e169_84 (ho : j_one l0 = true) : Rn X d 169 84 (l0 :: some (.int x) :: t) ST M h = Rn X d 169 87 (l0 :: some (.int (x + (zN 1))) :: t) ST M h := r_iinc mt_169 dX5_digest_84 rfl (by simp only [List.length_cons]; omega) ho c_ic1 rfl
theorem e169_87 : Rn X d 169 87 LS ST M h = Rn X d 169 50 LS ST M h := r_goto mt_169 dX5_digest_87 rfl
theorem e169_90 : Rn X d 169 90 LS ST M h = Rn X d 169 91 LS (.int (zN 0) :: ST) M h := r_iconst mt_169 dX5_digest_90 c_ic0
theorem e169_91 (ho : j_one l0 = true) : Rn X d 169 91 (l0 :: l1 :: t) (.int x :: ST) M h = Rn X d 169 92 (l0 :: some (.int x) :: t) ST M h := r_istore_n mt_169 dX5_digest_91 (by show 1 < _; simp only [List.length_cons]; omega) ho rfl
theorem e169_92 : Rn X d 169 92 (l0 :: some (.int x) :: t) ST M h = Rn X d 169 93 (l0 :: some (.int x) :: t) (.int x :: ST) M h := r_iload_n mt_169 dX5_digest_92 rfl
theorem e169_93 : Rn X d 169 93 LS ST M h = Rn X d 169 94 LS (.int (zN 2) :: ST) M h := r_iconst mt_169 dX5_digest_93 c_ic2
theorem e169_94 : Rn X d 169 94 LS (.int y :: .int x :: ST) M h = q_le X y x d 169 153 97 LS ST M h := s_icge mt_169 dX5_digest_94 rfl
theorem e169_97 : Rn X d 169 97 LS ST M h = Rn X d 169 98 LS (.int (zN 0) :: ST) M h := r_iconst mt_169 dX5_digest_97 c_ic0
theorem e169_98 (ho : j_one l1 = true) : Rn X d 169 98 (l0 :: l1 :: l2 :: t) (.int x :: ST) M h = Rn X d 169 99 (l0 :: l1 :: some (.int x) :: t) ST M h := r_istore_n mt_169 dX5_digest_98 (by show 2 < _; simp only [List.length_cons]; omega) ho rfl
theorem e169_99 : Rn X d 169 99 (l0 :: l1 :: some (.int x) :: t) ST M h = Rn X d 169 100 (l0 :: l1 :: some (.int x) :: t) (.int x :: ST) M h := r_iload_n mt_169 dX5_digest_99 rfl
theorem e169_100 : Rn X d 169 100 LS ST M h = Rn X d 169 102 LS (.int (zN 6) :: ST) M h := r_bipush mt_169 dX5_digest_100 c_bi6
theorem e169_102 : Rn X d 169 102 LS (.int y :: .int x :: ST) M h = q_le X y x d 169 121 105 LS ST M h := s_icge mt_169 dX5_digest_102 rfl
theorem e169_105 : Rn X d 169 105 (some (.ref a) :: t) ST M h = Rn X d 169 106 (some (.ref a) :: t) (.ref a :: ST) M h := r_aload_n mt_169 dX5_digest_105 rfl
theorem e169_106 : Rn X d 169 106 (some (.ref a) :: t) ST M h = Rn X d 169 107 (some (.ref a) :: t) (.ref a :: ST) M h := r_aload_n mt_169 dX5_digest_106 rfl
theorem e169_107 : Rn X d 169 107 (l0 :: some (.int x) :: t) ST M h = Rn X d 169 108 (l0 :: some (.int x) :: t) (.int x :: ST) M h := r_iload_n mt_169 dX5_digest_107 rfl
theorem e169_108 : Rn X d 169 108 (l0 :: l1 :: some (.int x) :: t) ST M h = Rn X d 169 109 (l0 :: l1 :: some (.int x) :: t) (.int x :: ST) M h := r_iload_n mt_169 dX5_digest_108 rfl
theorem e169_109 (hcs : Nat.ble (j_cs ST) 8 = true) : Rn X (d + 1) 169 109 LS (.int y :: .int x :: .ref a :: ST) M h = j_rc (M a) 5 (q_k X (Rn X d 138 0 [some (.ref a), some (.int x), some (.int y), none, none] [] M (j_h0 h)) h (d + 1) 169 112 LS ST) := s_callV mt_169 dX5_digest_109 cl_5_122 mt_138 rfl rfl (Nat.le_add_left _ _) rfl rfl rfl rfl hcs
theorem e169_112 (hcs : Nat.ble (j_cs ST) 8 = true) : Rn X (d + 1) 169 112 LS (.int x :: .ref a :: ST) M h = j_rc (M a) 5 (q_k X (Rn X d 168 0 [some (.ref a), some (.int x)] [] M (j_h0 h)) h (d + 1) 169 115 LS ST) := s_callV mt_169 dX5_digest_112 cl_5_205 mt_168 rfl rfl (Nat.le_add_left _ _) rfl rfl rfl rfl hcs
theorem e169_115 (ho : j_one l1 = true) : Rn X d 169 115 (l0 :: l1 :: some (.int x) :: t) ST M h = Rn X d 169 118 (l0 :: l1 :: some (.int (x + (zN 1))) :: t) ST M h := r_iinc mt_169 dX5_digest_115 rfl (by simp only [List.length_cons]; omega) ho c_ic1 rfl
theorem e169_118 : Rn X d 169 118 LS ST M h = Rn X d 169 99 LS ST M h := r_goto mt_169 dX5_digest_118 rfl
theorem e169_121 : Rn X d 169 121 LS ST M h = Rn X d 169 122 LS (.int (zN 0) :: ST) M h := r_iconst mt_169 dX5_digest_121 c_ic0
theorem e169_122 (ho : j_one l1 = true) : Rn X d 169 122 (l0 :: l1 :: l2 :: t) (.int x :: ST) M h = Rn X d 169 123 (l0 :: l1 :: some (.int x) :: t) ST M h := r_istore_n mt_169 dX5_digest_122 (by show 2 < _; simp only [List.length_cons]; omega) ho rfl
theorem e169_123 : Rn X d 169 123 (l0 :: l1 :: some (.int x) :: t) ST M h = Rn X d 169 124 (l0 :: l1 :: some (.int x) :: t) (.int x :: ST) M h := r_iload_n mt_169 dX5_digest_123 rfl
theorem e169_124 : Rn X d 169 124 LS ST M h = Rn X d 169 126 LS (.int (zN 8) :: ST) M h := r_bipush mt_169 dX5_digest_124 c_bi8
theorem e169_126 : Rn X d 169 126 LS (.int y :: .int x :: ST) M h = q_le X y x d 169 147 129 LS ST M h := s_icge mt_169 dX5_digest_126 rfl
theorem e169_129 : Rn X d 169 129 (some (.ref a) :: t) ST M h = Rn X d 169 130 (some (.ref a) :: t) (.ref a :: ST) M h := r_aload_n mt_169 dX5_digest_129 rfl
theorem e169_130 : Rn X d 169 130 (some (.ref a) :: t) ST M h = Rn X d 169 131 (some (.ref a) :: t) (.ref a :: ST) M h := r_aload_n mt_169 dX5_digest_130 rfl
theorem e169_131 : Rn X d 169 131 (l0 :: some (.int x) :: t) ST M h = Rn X d 169 132 (l0 :: some (.int x) :: t) (.int x :: ST) M h := r_iload_n mt_169 dX5_digest_131 rfl
theorem e169_132 : Rn X d 169 132 LS ST M h = Rn X d 169 133 LS (.int (zN 5) :: ST) M h := r_iconst mt_169 dX5_digest_132 c_ic5
theorem e169_133 : Rn X d 169 133 (l0 :: l1 :: some (.int x) :: t) ST M h = Rn X d 169 134 (l0 :: l1 :: some (.int x) :: t) (.int x :: ST) M h := r_iload_n mt_169 dX5_digest_133 rfl
theorem e169_134 : Rn X d 169 134 LS (.int y :: .int x :: ST) M h = Rn X d 169 135 LS (.int (x + y) :: ST) M h := r_iadd mt_169 dX5_digest_134
theorem e169_135 (hcs : Nat.ble (j_cs ST) 8 = true) : Rn X (d + 1) 169 135 LS (.int y :: .int x :: .ref a :: ST) M h = j_rc (M a) 5 (q_k X (Rn X d 106 0 [some (.ref a), some (.int x), some (.int y)] [] M (j_h0 h)) h (d + 1) 169 138 LS ST) := s_callV mt_169 dX5_digest_135 cl_5_57 mt_106 rfl rfl (Nat.le_add_left _ _) rfl rfl rfl rfl hcs
theorem e169_138 (hcs : Nat.ble (j_cs ST) 8 = true) : Rn X (d + 1) 169 138 LS (.int x :: .ref a :: ST) M h = j_rc (M a) 5 (q_k X (Rn X d 168 0 [some (.ref a), some (.int x)] [] M (j_h0 h)) h (d + 1) 169 141 LS ST) := s_callV mt_169 dX5_digest_138 cl_5_205 mt_168 rfl rfl (Nat.le_add_left _ _) rfl rfl rfl rfl hcs
theorem e169_141 (ho : j_one l1 = true) : Rn X d 169 141 (l0 :: l1 :: some (.int x) :: t) ST M h = Rn X d 169 144 (l0 :: l1 :: some (.int (x + (zN 1))) :: t) ST M h := r_iinc mt_169 dX5_digest_141 rfl (by simp only [List.length_cons]; omega) ho c_ic1 rfl
theorem e169_144 : Rn X d 169 144 LS ST M h = Rn X d 169 123 LS ST M h := r_goto mt_169 dX5_digest_144 rfl
theorem e169_147 (ho : j_one l0 = true) : Rn X d 169 147 (l0 :: some (.int x) :: t) ST M h = Rn X d 169 150 (l0 :: some (.int (x + (zN 1))) :: t) ST M h := r_iinc mt_169 dX5_digest_147 rfl (by simp only [List.length_cons]; omega) ho c_ic1 rfl
theorem e169_150 : Rn X d 169 150 LS ST M h = Rn X d 169 92 LS ST M h := r_goto mt_169 dX5_digest_150 rfl
theorem e169_153 : Rn X d 169 153 (some (.ref a) :: t) ST M h = Rn X d 169 154 (some (.ref a) :: t) (.ref a :: ST) M h := r_aload_n mt_169 dX5_digest_153 rfl
theorem e169_154 : Rn X d 169 154 (some (.ref a) :: t) ST M h = Rn X d 169 155 (some (.ref a) :: t) (.ref a :: ST) M h := r_aload_n mt_169 dX5_digest_154 rfl
theorem e169_155 : Rn X d 169 155 LS ST M h = Rn X d 169 156 LS (.int (zN 0) :: ST) M h := r_iconst mt_169 dX5_digest_155 c_ic0
theorem e169_156 (hcs : Nat.ble (j_cs ST) 8 = true) : Rn X (d + 1) 169 156 LS (.int x :: .ref a :: ST) M h = j_rc (M a) 5 (q_k X (Rn X d 120 0 [some (.ref a), some (.int x)] [] M (j_h0 h)) h (d + 1) 169 159 LS ST) := s_callV mt_169 dX5_digest_156 cl_5_78 mt_120 rfl rfl (Nat.le_add_left _ _) rfl rfl rfl rfl hcs
theorem e169_159 (hcs : Nat.ble (j_cs ST) 8 = true) : Rn X (d + 1) 169 159 LS (.int x :: .ref a :: ST) M h = j_rc (M a) 5 (q_k X (Rn X d 168 0 [some (.ref a), some (.int x)] [] M (j_h0 h)) h (d + 1) 169 162 LS ST) := s_callV mt_169 dX5_digest_159 cl_5_205 mt_168 rfl rfl (Nat.le_add_left _ _) rfl rfl rfl rfl hcs
theorem e169_162 : Rn X d 169 162 (some (.ref a) :: t) ST M h = Rn X d 169 163 (some (.ref a) :: t) (.ref a :: ST) M h := r_aload_n mt_169 dX5_digest_162 rfl
theorem e169_163 : Rn X d 169 163 (some (.ref a) :: t) ST M h = Rn X d 169 164 (some (.ref a) :: t) (.ref a :: ST) M h := r_aload_n mt_169 dX5_digest_163 rfl
theorem e169_164 : Rn X d 169 164 LS ST M h = Rn X d 169 165 LS (.int (zN 1) :: ST) M h := r_iconst mt_169 dX5_digest_164 c_ic1
theorem e169_165 (hcs : Nat.ble (j_cs ST) 8 = true) : Rn X (d + 1) 169 165 LS (.int x :: .ref a :: ST) M h = j_rc (M a) 5 (q_k X (Rn X d 120 0 [some (.ref a), some (.int x)] [] M (j_h0 h)) h (d + 1) 169 168 LS ST) := s_callV mt_169 dX5_digest_165 cl_5_78 mt_120 rfl rfl (Nat.le_add_left _ _) rfl rfl rfl rfl hcs
theorem e169_168 (hcs : Nat.ble (j_cs ST) 8 = true) : Rn X (d + 1) 169 168 LS (.int x :: .ref a :: ST) M h = j_rc (M a) 5 (q_k X (Rn X d 168 0 [some (.ref a), some (.int x)] [] M (j_h0 h)) h (d + 1) 169 171 LS ST) := s_callV mt_169 dX5_digest_168 cl_5_205 mt_168 rfl rfl (Nat.le_add_left _ _) rfl rfl rfl rfl hcs
theorem e169_171 : Rn X d 169 171 (some (.ref a) :: t) ST M h = Rn X d 169 172 (some (.ref a) :: t) (.ref a :: ST) M h := r_aload_n mt_169 dX5_digest_171 rfl
theorem e169_172 : Rn X d 169 172 (some (.ref a) :: t) ST M h = Rn X d 169 173 (some (.ref a) :: t) (.ref a :: ST) M h := r_aload_n mt_169 dX5_digest_172 rfl
theorem e169_173 (hcs : Nat.ble (j_cs ST) 8 = true) : Rn X (d + 1) 169 173 LS (.ref a :: ST) M h = j_rc (M a) 5 (q_k X (Rn X d 151 0 [some (.ref a), none, none] [] M (j_h0 h)) h (d + 1) 169 176 LS ST) := s_callV mt_169 dX5_digest_173 cl_5_146 mt_151 rfl rfl (Nat.le_add_left _ _) rfl rfl rfl rfl hcs
theorem e169_176 (hcs : Nat.ble (j_cs ST) 8 = true) : Rn X (d + 1) 169 176 LS (.int x :: .ref a :: ST) M h = j_rc (M a) 5 (q_k X (Rn X d 168 0 [some (.ref a), some (.int x)] [] M (j_h0 h)) h (d + 1) 169 179 LS ST) := s_callV mt_169 dX5_digest_176 cl_5_205 mt_168 rfl rfl (Nat.le_add_left _ _) rfl rfl rfl rfl hcs
theorem e169_179 : Rn X d 169 179 LS ST M h = Rn X d 169 180 LS (.int (zN 0) :: ST) M h := r_iconst mt_169 dX5_digest_179 c_ic0
theorem e169_180 (ho : j_one l0 = true) : Rn X d 169 180 (l0 :: l1 :: t) (.int x :: ST) M h = Rn X d 169 181 (l0 :: some (.int x) :: t) ST M h := r_istore_n mt_169 dX5_digest_180 (by show 1 < _; simp only [List.length_cons]; omega) ho rfl
theorem e169_181 : Rn X d 169 181 (l0 :: some (.int x) :: t) ST M h = Rn X d 169 182 (l0 :: some (.int x) :: t) (.int x :: ST) M h := r_iload_n mt_169 dX5_digest_181 rfl
theorem e169_182 : Rn X d 169 182 LS ST M h = Rn X d 169 184 LS (.int (zN 8) :: ST) M h := r_bipush mt_169 dX5_digest_182 c_bi8
theorem e169_184 : Rn X d 169 184 LS (.int y :: .int x :: ST) M h = q_le X y x d 169 208 187 LS ST M h := s_icge mt_169 dX5_digest_184 rfl
theorem e169_187 : Rn X d 169 187 (some (.ref a) :: t) ST M h = Rn X d 169 188 (some (.ref a) :: t) (.ref a :: ST) M h := r_aload_n mt_169 dX5_digest_187 rfl
theorem e169_188 : Rn X d 169 188 (some (.ref a) :: t) ST M h = Rn X d 169 189 (some (.ref a) :: t) (.ref a :: ST) M h := r_aload_n mt_169 dX5_digest_188 rfl
theorem e169_189 : Rn X d 169 189 (some (.ref a) :: t) ST M h = Rn X d 169 190 (some (.ref a) :: t) (.ref a :: ST) M h := r_aload_n mt_169 dX5_digest_189 rfl
theorem e169_190 : Rn X d 169 190 LS (.ref a :: ST) M h = q_g X (M a) 5 0 d 169 193 LS ST M h := s_get mt_169 dX5_digest_190 f_5_7
theorem e169_193 : Rn X d 169 193 LS ST M h = Rn X d 169 194 LS (.int (zN 2) :: ST) M h := r_iconst mt_169 dX5_digest_193 c_ic2
theorem e169_194 : Rn X d 169 194 LS (.int x :: .ref a :: ST) M h = q_ld X (M a) a x d 169 195 LS ST M h := s_iald mt_169 dX5_digest_194
theorem e169_195 : Rn X d 169 195 (l0 :: some (.int x) :: t) ST M h = Rn X d 169 196 (l0 :: some (.int x) :: t) (.int x :: ST) M h := r_iload_n mt_169 dX5_digest_195 rfl
theorem e169_196 (hcs : Nat.ble (j_cs ST) 8 = true) : Rn X (d + 1) 169 196 LS (.int y :: .int x :: .ref a :: ST) M h = j_rc (M a) 5 (q_k X (Rn X d 149 0 [some (.ref a), some (.int x), some (.int y)] [] M (j_h0 h)) h (d + 1) 169 199 LS ST) := s_callV mt_169 dX5_digest_196 cl_5_143 mt_149 rfl rfl (Nat.le_add_left _ _) rfl rfl rfl rfl hcs
theorem e169_199 (hcs : Nat.ble (j_cs ST) 8 = true) : Rn X (d + 1) 169 199 LS (.int x :: .ref a :: ST) M h = j_rc (M a) 5 (q_k X (Rn X d 168 0 [some (.ref a), some (.int x)] [] M (j_h0 h)) h (d + 1) 169 202 LS ST) := s_callV mt_169 dX5_digest_199 cl_5_205 mt_168 rfl rfl (Nat.le_add_left _ _) rfl rfl rfl rfl hcs
theorem e169_202 (ho : j_one l0 = true) : Rn X d 169 202 (l0 :: some (.int x) :: t) ST M h = Rn X d 169 205 (l0 :: some (.int (x + (zN 1))) :: t) ST M h := r_iinc mt_169 dX5_digest_202 rfl (by simp only [List.length_cons]; omega) ho c_ic1 rfl
theorem e169_205 : Rn X d 169 205 LS ST M h = Rn X d 169 181 LS ST M h := r_goto mt_169 dX5_digest_205 rfl
theorem e169_208 : Rn X d 169 208 (some (.ref a) :: t) ST M h = Rn X d 169 209 (some (.ref a) :: t) (.ref a :: ST) M h := r_aload_n mt_169 dX5_digest_208 rfl
theorem e169_209 : Rn X d 169 209 (some (.ref a) :: t) ST M h = Rn X d 169 210 (some (.ref a) :: t) (.ref a :: ST) M h := r_aload_n mt_169 dX5_digest_209 rfl
theorem e169_210 : Rn X d 169 210 LS (.ref a :: ST) M h = q_g X (M a) 5 2 d 169 213 LS ST M h := s_get mt_169 dX5_digest_210 f_5_41
theorem e169_213 (hcs : Nat.ble (j_cs ST) 8 = true) : Rn X (d + 1) 169 213 LS (.int x :: .ref a :: ST) M h = j_rc (M a) 5 (q_k X (Rn X d 168 0 [some (.ref a), some (.int x)] [] M (j_h0 h)) h (d + 1) 169 216 LS ST) := s_callV mt_169 dX5_digest_213 cl_5_205 mt_168 rfl rfl (Nat.le_add_left _ _) rfl rfl rfl rfl hcs
theorem e169_216 : Rn X d 169 216 (some (.ref a) :: t) ST M h = Rn X d 169 217 (some (.ref a) :: t) (.ref a :: ST) M h := r_aload_n mt_169 dX5_digest_216 rfl
theorem e169_217 : Rn X d 169 217 LS (.ref a :: ST) M h = q_g X (M a) 5 15 d 169 220 LS ST M h := s_get mt_169 dX5_digest_217 f_5_199
theorem e169_220 : Rn X d 169 220 LS ([.long p]) M h = some (.inl (some (.long p)), M, h) := r_lret mt_169 dX5_digest_220 rfl
theorem e170_0 : Rn X d 170 0 (some (.int x) :: t) ST M h = Rn X d 170 1 (some (.int x) :: t) (.int x :: ST) M h := r_iload_n mt_170 dJ6_bitCount_0f7a4_0 rfl
theorem e170_1 : Rn X d 170 1 (some (.int x) :: t) ST M h = Rn X d 170 2 (some (.int x) :: t) (.int x :: ST) M h := r_iload_n mt_170 dJ6_bitCount_0f7a4_1 rfl
theorem e170_2 : Rn X d 170 2 LS ST M h = Rn X d 170 3 LS (.int (zN 1) :: ST) M h := r_iconst mt_170 dJ6_bitCount_0f7a4_2 c_ic1
theorem e170_3 : Rn X d 170 3 LS (.int y :: .int x :: ST) M h = Rn X d 170 4 LS (.int ((x.toUInt32 >>> (y.toUInt32 &&& Int32.toUInt32 31)).toInt32) :: ST) M h := r_iushr mt_170 dJ6_bitCount_0f7a4_3
theorem e170_4 : Rn X d 170 4 LS ST M h = Rn X d 170 7 LS (.int (zN 1431655765) :: ST) M h := r_ldc_w mt_170 dJ6_bitCount_0f7a4_4 ki_6_265
theorem e170_7 : Rn X d 170 7 LS (.int y :: .int x :: ST) M h = Rn X d 170 8 LS (.int (x &&& y) :: ST) M h := r_iand mt_170 dJ6_bitCount_0f7a4_7
theorem e170_8 : Rn X d 170 8 LS (.int y :: .int x :: ST) M h = Rn X d 170 9 LS (.int (x - y) :: ST) M h := r_isub mt_170 dJ6_bitCount_0f7a4_8
theorem e170_9 : Rn X d 170 9 (l0 :: t) (.int x :: ST) M h = Rn X d 170 10 (some (.int x) :: t) ST M h := r_istore_n mt_170 dJ6_bitCount_0f7a4_9 (by show 0 < _; simp only [List.length_cons]; omega) rfl rfl
theorem e170_10 : Rn X d 170 10 (some (.int x) :: t) ST M h = Rn X d 170 11 (some (.int x) :: t) (.int x :: ST) M h := r_iload_n mt_170 dJ6_bitCount_0f7a4_10 rfl
theorem e170_11 : Rn X d 170 11 LS ST M h = Rn X d 170 14 LS (.int (zN 858993459) :: ST) M h := r_ldc_w mt_170 dJ6_bitCount_0f7a4_11 ki_6_266
theorem e170_14 : Rn X d 170 14 LS (.int y :: .int x :: ST) M h = Rn X d 170 15 LS (.int (x &&& y) :: ST) M h := r_iand mt_170 dJ6_bitCount_0f7a4_14
theorem e170_15 : Rn X d 170 15 (some (.int x) :: t) ST M h = Rn X d 170 16 (some (.int x) :: t) (.int x :: ST) M h := r_iload_n mt_170 dJ6_bitCount_0f7a4_15 rfl
theorem e170_16 : Rn X d 170 16 LS ST M h = Rn X d 170 17 LS (.int (zN 2) :: ST) M h := r_iconst mt_170 dJ6_bitCount_0f7a4_16 c_ic2
theorem e170_17 : Rn X d 170 17 LS (.int y :: .int x :: ST) M h = Rn X d 170 18 LS (.int ((x.toUInt32 >>> (y.toUInt32 &&& Int32.toUInt32 31)).toInt32) :: ST) M h := r_iushr mt_170 dJ6_bitCount_0f7a4_17
theorem e170_18 : Rn X d 170 18 LS ST M h = Rn X d 170 21 LS (.int (zN 858993459) :: ST) M h := r_ldc_w mt_170 dJ6_bitCount_0f7a4_18 ki_6_266
theorem e170_21 : Rn X d 170 21 LS (.int y :: .int x :: ST) M h = Rn X d 170 22 LS (.int (x &&& y) :: ST) M h := r_iand mt_170 dJ6_bitCount_0f7a4_21
theorem e170_22 : Rn X d 170 22 LS (.int y :: .int x :: ST) M h = Rn X d 170 23 LS (.int (x + y) :: ST) M h := r_iadd mt_170 dJ6_bitCount_0f7a4_22
theorem e170_23 : Rn X d 170 23 (l0 :: t) (.int x :: ST) M h = Rn X d 170 24 (some (.int x) :: t) ST M h := r_istore_n mt_170 dJ6_bitCount_0f7a4_23 (by show 0 < _; simp only [List.length_cons]; omega) rfl rfl
theorem e170_24 : Rn X d 170 24 (some (.int x) :: t) ST M h = Rn X d 170 25 (some (.int x) :: t) (.int x :: ST) M h := r_iload_n mt_170 dJ6_bitCount_0f7a4_24 rfl
theorem e170_25 : Rn X d 170 25 (some (.int x) :: t) ST M h = Rn X d 170 26 (some (.int x) :: t) (.int x :: ST) M h := r_iload_n mt_170 dJ6_bitCount_0f7a4_25 rfl
theorem e170_26 : Rn X d 170 26 LS ST M h = Rn X d 170 27 LS (.int (zN 4) :: ST) M h := r_iconst mt_170 dJ6_bitCount_0f7a4_26 c_ic4
theorem e170_27 : Rn X d 170 27 LS (.int y :: .int x :: ST) M h = Rn X d 170 28 LS (.int ((x.toUInt32 >>> (y.toUInt32 &&& Int32.toUInt32 31)).toInt32) :: ST) M h := r_iushr mt_170 dJ6_bitCount_0f7a4_27
theorem e170_28 : Rn X d 170 28 LS (.int y :: .int x :: ST) M h = Rn X d 170 29 LS (.int (x + y) :: ST) M h := r_iadd mt_170 dJ6_bitCount_0f7a4_28
theorem e170_29 : Rn X d 170 29 LS ST M h = Rn X d 170 32 LS (.int (zN 252645135) :: ST) M h := r_ldc_w mt_170 dJ6_bitCount_0f7a4_29 ki_6_267
theorem e170_32 : Rn X d 170 32 LS (.int y :: .int x :: ST) M h = Rn X d 170 33 LS (.int (x &&& y) :: ST) M h := r_iand mt_170 dJ6_bitCount_0f7a4_32
theorem e170_33 : Rn X d 170 33 (l0 :: t) (.int x :: ST) M h = Rn X d 170 34 (some (.int x) :: t) ST M h := r_istore_n mt_170 dJ6_bitCount_0f7a4_33 (by show 0 < _; simp only [List.length_cons]; omega) rfl rfl
theorem e170_34 : Rn X d 170 34 (some (.int x) :: t) ST M h = Rn X d 170 35 (some (.int x) :: t) (.int x :: ST) M h := r_iload_n mt_170 dJ6_bitCount_0f7a4_34 rfl
theorem e170_35 : Rn X d 170 35 (some (.int x) :: t) ST M h = Rn X d 170 36 (some (.int x) :: t) (.int x :: ST) M h := r_iload_n mt_170 dJ6_bitCount_0f7a4_35 rfl
theorem e170_36 : Rn X d 170 36 LS ST M h = Rn X d 170 38 LS (.int (zN 8) :: ST) M h := r_bipush mt_170 dJ6_bitCount_0f7a4_36 c_bi8
theorem e170_38 : Rn X d 170 38 LS (.int y :: .int x :: ST) M h = Rn X d 170 39 LS (.int ((x.toUInt32 >>> (y.toUInt32 &&& Int32.toUInt32 31)).toInt32) :: ST) M h := r_iushr mt_170 dJ6_bitCount_0f7a4_38
theorem e170_39 : Rn X d 170 39 LS (.int y :: .int x :: ST) M h = Rn X d 170 40 LS (.int (x + y) :: ST) M h := r_iadd mt_170 dJ6_bitCount_0f7a4_39
theorem e170_40 : Rn X d 170 40 (l0 :: t) (.int x :: ST) M h = Rn X d 170 41 (some (.int x) :: t) ST M h := r_istore_n mt_170 dJ6_bitCount_0f7a4_40 (by show 0 < _; simp only [List.length_cons]; omega) rfl rfl
theorem e170_41 : Rn X d 170 41 (some (.int x) :: t) ST M h = Rn X d 170 42 (some (.int x) :: t) (.int x :: ST) M h := r_iload_n mt_170 dJ6_bitCount_0f7a4_41 rfl
theorem e170_42 : Rn X d 170 42 (some (.int x) :: t) ST M h = Rn X d 170 43 (some (.int x) :: t) (.int x :: ST) M h := r_iload_n mt_170 dJ6_bitCount_0f7a4_42 rfl
theorem e170_43 : Rn X d 170 43 LS ST M h = Rn X d 170 45 LS (.int (zN 16) :: ST) M h := r_bipush mt_170 dJ6_bitCount_0f7a4_43 c_bi16
theorem e170_45 : Rn X d 170 45 LS (.int y :: .int x :: ST) M h = Rn X d 170 46 LS (.int ((x.toUInt32 >>> (y.toUInt32 &&& Int32.toUInt32 31)).toInt32) :: ST) M h := r_iushr mt_170 dJ6_bitCount_0f7a4_45
theorem e170_46 : Rn X d 170 46 LS (.int y :: .int x :: ST) M h = Rn X d 170 47 LS (.int (x + y) :: ST) M h := r_iadd mt_170 dJ6_bitCount_0f7a4_46
theorem e170_47 : Rn X d 170 47 (l0 :: t) (.int x :: ST) M h = Rn X d 170 48 (some (.int x) :: t) ST M h := r_istore_n mt_170 dJ6_bitCount_0f7a4_47 (by show 0 < _; simp only [List.length_cons]; omega) rfl rfl
theorem e170_48 : Rn X d 170 48 (some (.int x) :: t) ST M h = Rn X d 170 49 (some (.int x) :: t) (.int x :: ST) M h := r_iload_n mt_170 dJ6_bitCount_0f7a4_48 rfl
theorem e170_49 : Rn X d 170 49 LS ST M h = Rn X d 170 51 LS (.int (zN 63) :: ST) M h := r_bipush mt_170 dJ6_bitCount_0f7a4_49 c_bi63
theorem e170_51 : Rn X d 170 51 LS (.int y :: .int x :: ST) M h = Rn X d 170 52 LS (.int (x &&& y) :: ST) M h := r_iand mt_170 dJ6_bitCount_0f7a4_51
theorem e170_52 : Rn X d 170 52 LS ([.int x]) M h = some (.inl (some (.int x)), M, h) := r_iret mt_170 dJ6_bitCount_0f7a4_52 rfl
theorem e171_0 : Rn X d 171 0 (l0 :: l1 :: some (.ref a) :: t) ST M h = Rn X d 171 1 (l0 :: l1 :: some (.ref a) :: t) (.ref a :: ST) M h := r_aload_n mt_171 dL_begin_0 rfl
theorem e171_1 : Rn X d 171 1 LS ST M h = Rn X d 171 2 LS (.int (zN 0) :: ST) M h := r_iconst mt_171 dL_begin_1 c_ic0
theorem e171_2 : Rn X d 171 2 (some (.ref a) :: t) ST M h = Rn X d 171 3 (some (.ref a) :: t) (.ref a :: ST) M h := r_aload_n mt_171 dL_begin_2 rfl
theorem e171_3 : Rn X d 171 3 (l0 :: some (.int x) :: t) ST M h = Rn X d 171 4 (l0 :: some (.int x) :: t) (.int x :: ST) M h := r_iload_n mt_171 dL_begin_3 rfl
theorem c171_4_A (ho : j_one l2 = true) : j_cat (Rn X) mtI_171 d 171 4 (l0 :: l1 :: l2 :: l3 :: t) "java/lang/IllegalArgumentException" M h = Rn X d 171 13 (l0 :: l1 :: l2 :: none :: t) [] M h := r_cat (hp := 12) (k := 3) (by decide +kernel) (by simp only [List.length_cons]; omega) ho (Or.inr ⟨3, rfl, dL_begin_12, rfl⟩) rfl
theorem e171_4 (hcs : Nat.ble (j_cs ST) 8 = true) : Rn X (d + 1) 171 4 LS (.int x :: .ref a :: ST) M h = j_rc (M a) 4 (q_kc X (Rn X d 62 0 [some (.ref a), some (.int x), none] [] M (j_h0 h)) h mtI_171 (d + 1) 171 4 7 LS ST) := s_callC mt_171 dL_begin_4 cl_8_7 mt_62 rfl rfl (Nat.le_add_left _ _) rfl rfl rfl (by decide) hcs
theorem e171_7 : Rn X d 171 7 LS (.int x :: ST) M h = Rn X d 171 8 LS (.long x.toInt64 :: ST) M h := r_i2l mt_171 dL_begin_7
theorem e171_8 : Rn X d 171 8 LS (.long p :: .int x :: .ref a :: ST) M h = q_sJ X (M a) a x p d 171 9 LS ST M h := s_last mt_171 dL_begin_8
theorem e171_9 : Rn X d 171 9 LS ST M h = Rn X d 171 15 LS ST M h := r_goto mt_171 dL_begin_9 rfl
theorem e171_13 : Rn X d 171 13 LS ST M h = Rn X d 171 14 LS (.int (zN 1) :: ST) M h := r_iconst mt_171 dL_begin_13 c_ic1
theorem e171_14 : Rn X d 171 14 LS ([.int x]) M h = some (.inl (some (.int x)), M, h) := r_iret mt_171 dL_begin_14 rfl
theorem e171_15 : Rn X d 171 15 LS ST M h = Rn X d 171 16 LS (.int (zN 0) :: ST) M h := r_iconst mt_171 dL_begin_15 c_ic0
theorem e171_16 : Rn X d 171 16 LS ([.int x]) M h = some (.inl (some (.int x)), M, h) := r_iret mt_171 dL_begin_16 rfl
theorem e172_0 : Rn X d 172 0 (l0 :: l1 :: l2 :: l3 :: l4 :: some (.ref a) :: t) ST M h = Rn X d 172 2 (l0 :: l1 :: l2 :: l3 :: l4 :: some (.ref a) :: t) (.ref a :: ST) M h := r_aload mt_172 dL_write_0 rfl
theorem e172_2 : Rn X d 172 2 LS ST M h = Rn X d 172 3 LS (.int (zN 0) :: ST) M h := r_iconst mt_172 dL_write_2 c_ic0
theorem e172_3 : Rn X d 172 3 (some (.ref a) :: t) ST M h = Rn X d 172 4 (some (.ref a) :: t) (.ref a :: ST) M h := r_aload_n mt_172 dL_write_3 rfl
theorem e172_4 : Rn X d 172 4 (l0 :: some (.int x) :: t) ST M h = Rn X d 172 5 (l0 :: some (.int x) :: t) (.int x :: ST) M h := r_iload_n mt_172 dL_write_4 rfl
theorem e172_5 : Rn X d 172 5 (l0 :: l1 :: some (.int x) :: t) ST M h = Rn X d 172 6 (l0 :: l1 :: some (.int x) :: t) (.int x :: ST) M h := r_iload_n mt_172 dL_write_5 rfl
theorem e172_6 : Rn X d 172 6 (l0 :: l1 :: l2 :: some (.int x) :: t) ST M h = Rn X d 172 7 (l0 :: l1 :: l2 :: some (.int x) :: t) (.int x :: ST) M h := r_iload_n mt_172 dL_write_6 rfl
theorem e172_7 : Rn X d 172 7 (l0 :: l1 :: l2 :: l3 :: some (.int x) :: t) ST M h = Rn X d 172 9 (l0 :: l1 :: l2 :: l3 :: some (.int x) :: t) (.int x :: ST) M h := r_iload mt_172 dL_write_7 rfl
theorem c172_9_A (ho : j_one l5 = true) : j_cat (Rn X) mtI_172 d 172 9 (l0 :: l1 :: l2 :: l3 :: l4 :: l5 :: l6 :: t) "java/lang/IllegalArgumentException" M h = Rn X d 172 19 (l0 :: l1 :: l2 :: l3 :: l4 :: l5 :: none :: t) [] M h := r_cat (hp := 17) (k := 6) (by decide +kernel) (by simp only [List.length_cons]; omega) ho (Or.inl ⟨dL_write_17, rfl⟩) rfl
theorem c172_9_S (ho : j_one l5 = true) : j_cat (Rn X) mtI_172 d 172 9 (l0 :: l1 :: l2 :: l3 :: l4 :: l5 :: l6 :: t) "java/lang/IllegalStateException" M h = Rn X d 172 23 (l0 :: l1 :: l2 :: l3 :: l4 :: l5 :: none :: t) [] M h := r_cat (hp := 21) (k := 6) (by decide +kernel) (by simp only [List.length_cons]; omega) ho (Or.inl ⟨dL_write_21, rfl⟩) rfl
theorem e172_9 (hcs : Nat.ble (j_cs ST) 8 = true) : Rn X (d + 1) 172 9 LS (.int w :: .int z :: .int y :: .int x :: .ref a :: ST) M h = j_rc (M a) 4 (q_kc X (Rn X d 63 0 [some (.ref a), some (.int x), some (.int y), some (.int z), some (.int w)] [] M (j_h0 h)) h mtI_172 (d + 1) 172 9 12 LS ST) := s_callC mt_172 dL_write_9 cl_8_15 mt_63 rfl rfl (Nat.le_add_left _ _) rfl rfl rfl (by decide) hcs
theorem e172_12 : Rn X d 172 12 LS (.int x :: ST) M h = Rn X d 172 13 LS (.long x.toInt64 :: ST) M h := r_i2l mt_172 dL_write_12
theorem e172_13 : Rn X d 172 13 LS (.long p :: .int x :: .ref a :: ST) M h = q_sJ X (M a) a x p d 172 14 LS ST M h := s_last mt_172 dL_write_13
theorem e172_14 : Rn X d 172 14 LS ST M h = Rn X d 172 25 LS ST M h := r_goto mt_172 dL_write_14 rfl
theorem e172_19 : Rn X d 172 19 LS ST M h = Rn X d 172 20 LS (.int (zN 1) :: ST) M h := r_iconst mt_172 dL_write_19 c_ic1
theorem e172_20 : Rn X d 172 20 LS ([.int x]) M h = some (.inl (some (.int x)), M, h) := r_iret mt_172 dL_write_20 rfl
theorem e172_23 : Rn X d 172 23 LS ST M h = Rn X d 172 24 LS (.int (zN 2) :: ST) M h := r_iconst mt_172 dL_write_23 c_ic2
theorem e172_24 : Rn X d 172 24 LS ([.int x]) M h = some (.inl (some (.int x)), M, h) := r_iret mt_172 dL_write_24 rfl
theorem e172_25 : Rn X d 172 25 LS ST M h = Rn X d 172 26 LS (.int (zN 0) :: ST) M h := r_iconst mt_172 dL_write_25 c_ic0
theorem e172_26 : Rn X d 172 26 LS ([.int x]) M h = some (.inl (some (.int x)), M, h) := r_iret mt_172 dL_write_26 rfl
theorem e173_0 : Rn X d 173 0 (l0 :: l1 :: l2 :: some (.ref a) :: t) ST M h = Rn X d 173 1 (l0 :: l1 :: l2 :: some (.ref a) :: t) (.ref a :: ST) M h := r_aload_n mt_173 dL_spoil_0 rfl
theorem e173_1 : Rn X d 173 1 LS ST M h = Rn X d 173 2 LS (.int (zN 0) :: ST) M h := r_iconst mt_173 dL_spoil_1 c_ic0
theorem e173_2 : Rn X d 173 2 (some (.ref a) :: t) ST M h = Rn X d 173 3 (some (.ref a) :: t) (.ref a :: ST) M h := r_aload_n mt_173 dL_spoil_2 rfl
theorem e173_3 : Rn X d 173 3 (l0 :: some (.int x) :: t) ST M h = Rn X d 173 4 (l0 :: some (.int x) :: t) (.int x :: ST) M h := r_iload_n mt_173 dL_spoil_3 rfl
theorem e173_4 : Rn X d 173 4 (l0 :: l1 :: some (.int x) :: t) ST M h = Rn X d 173 5 (l0 :: l1 :: some (.int x) :: t) (.int x :: ST) M h := r_iload_n mt_173 dL_spoil_4 rfl
theorem c173_5_B (ho : j_one l3 = true) : j_cat (Rn X) mtI_173 d 173 5 (l0 :: l1 :: l2 :: l3 :: l4 :: t) "java/lang/IndexOutOfBoundsException" M h = Rn X d 173 15 (l0 :: l1 :: l2 :: l3 :: none :: t) [] M h := r_cat (hp := 13) (k := 4) (by decide +kernel) (by simp only [List.length_cons]; omega) ho (Or.inl ⟨dL_spoil_13, rfl⟩) rfl
theorem c173_5_A (ho : j_one l3 = true) : j_cat (Rn X) mtI_173 d 173 5 (l0 :: l1 :: l2 :: l3 :: l4 :: t) "java/lang/IllegalArgumentException" M h = Rn X d 173 19 (l0 :: l1 :: l2 :: l3 :: none :: t) [] M h := r_cat (hp := 17) (k := 4) (by decide +kernel) (by simp only [List.length_cons]; omega) ho (Or.inl ⟨dL_spoil_17, rfl⟩) rfl
theorem e173_5 (hcs : Nat.ble (j_cs ST) 8 = true) : Rn X (d + 1) 173 5 LS (.int y :: .int x :: .ref a :: ST) M h = j_rc (M a) 4 (q_kc X (Rn X d 64 0 [some (.ref a), some (.int x), some (.int y)] [] M (j_h0 h)) h mtI_173 (d + 1) 173 5 8 LS ST) := s_callC mt_173 dL_spoil_5 cl_8_21 mt_64 rfl rfl (Nat.le_add_left _ _) rfl rfl rfl (by decide) hcs
theorem e173_8 : Rn X d 173 8 LS (.int x :: ST) M h = Rn X d 173 9 LS (.long x.toInt64 :: ST) M h := r_i2l mt_173 dL_spoil_8
theorem e173_9 : Rn X d 173 9 LS (.long p :: .int x :: .ref a :: ST) M h = q_sJ X (M a) a x p d 173 10 LS ST M h := s_last mt_173 dL_spoil_9
theorem e173_10 : Rn X d 173 10 LS ST M h = Rn X d 173 21 LS ST M h := r_goto mt_173 dL_spoil_10 rfl
theorem e173_15 : Rn X d 173 15 LS ST M h = Rn X d 173 16 LS (.int (zN 1) :: ST) M h := r_iconst mt_173 dL_spoil_15 c_ic1
theorem e173_16 : Rn X d 173 16 LS ([.int x]) M h = some (.inl (some (.int x)), M, h) := r_iret mt_173 dL_spoil_16 rfl
theorem e173_19 : Rn X d 173 19 LS ST M h = Rn X d 173 20 LS (.int (zN 2) :: ST) M h := r_iconst mt_173 dL_spoil_19 c_ic2
theorem e173_20 : Rn X d 173 20 LS ([.int x]) M h = some (.inl (some (.int x)), M, h) := r_iret mt_173 dL_spoil_20 rfl
theorem e173_21 : Rn X d 173 21 LS ST M h = Rn X d 173 22 LS (.int (zN 0) :: ST) M h := r_iconst mt_173 dL_spoil_21 c_ic0
theorem e173_22 : Rn X d 173 22 LS ([.int x]) M h = some (.inl (some (.int x)), M, h) := r_iret mt_173 dL_spoil_22 rfl
end
