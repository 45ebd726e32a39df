/-! one rule an instruction, printed by wip/whole/gen25.py -/
section
variable {X : jX} {d : Nat} {l0 l1 l2 l3 l4 l5 l6 l7 l8 l9 l10 l11 : Option Value} {LS t : jL} {ST : List Value} {M : jM} {h : jH} {x y z w u : Int32} {a b c e : Nat} {p q : Int64} {f g : UInt64}
theorem e117_0 : Rn X d 117 0 (some (.ref a) :: t) ST M h = Rn X d 117 1 (some (.ref a) :: t) (.ref a :: ST) M h := r_aload_n mt_117 dX5_undo_0 rfl
theorem e117_1 : Rn X d 117 1 LS (.ref a :: ST) M h = q_g X (M a) 5 2 d 117 4 LS ST M h := s_get mt_117 dX5_undo_1 f_5_41
theorem e117_4 : Rn X d 117 4 LS (.int x :: ST) M h = q_eq X x (zN 0) d 117 7 13 LS ST M h := s_ifne mt_117 dX5_undo_4 rfl
theorem e117_7 : Rn X d 117 7 (some (.ref a) :: t) ST M h = Rn X d 117 8 (some (.ref a) :: t) (.ref a :: ST) M h := r_aload_n mt_117 dX5_undo_7 rfl
theorem e117_8 : Rn X d 117 8 LS ST M h = Rn X d 117 9 LS (.int (zN 1) :: ST) M h := r_iconst mt_117 dX5_undo_8 c_ic1
theorem e117_9 (hcs : Nat.ble (j_cs ST) 8 = true) : Rn X (d + 1) 117 9 LS (.int x :: .ref a :: ST) M h = j_rc (M a) 5 (q_k X (Rn X d 102 0 [some (.ref a), some (.int x)] [] M (j_h0 h)) h (d + 1) 117 12 LS ST) := s_callV mt_117 dX5_undo_9 cl_5_44 mt_102 rfl rfl (Nat.le_add_left _ _) rfl rfl rfl rfl hcs
theorem e117_12 : Rn X d 117 12 LS ([.int x]) M h = some (.inl (some (.int x)), M, h) := r_iret mt_117 dX5_undo_12 rfl
theorem e117_13 : Rn X d 117 13 (some (.ref a) :: t) ST M h = Rn X d 117 14 (some (.ref a) :: t) (.ref a :: ST) M h := r_aload_n mt_117 dX5_undo_13 rfl
theorem e117_14 : Rn X d 117 14 LS (.int x :: ST) M h = Rn X d 117 15 LS (.int x :: .int x :: ST) M h := r_dup mt_117 dX5_undo_14 rfl
theorem e117_14r : Rn X d 117 14 LS (.ref a :: ST) M h = Rn X d 117 15 LS (.ref a :: .ref a :: ST) M h := r_dup mt_117 dX5_undo_14 rfl
theorem e117_15 : Rn X d 117 15 LS (.ref a :: ST) M h = q_g X (M a) 5 2 d 117 18 LS ST M h := s_get mt_117 dX5_undo_15 f_5_41
theorem e117_18 : Rn X d 117 18 LS ST M h = Rn X d 117 19 LS (.int (zN 1) :: ST) M h := r_iconst mt_117 dX5_undo_18 c_ic1
theorem e117_19 : Rn X d 117 19 LS (.int y :: .int x :: ST) M h = Rn X d 117 20 LS (.int (x - y) :: ST) M h := r_isub mt_117 dX5_undo_19
theorem e117_20 : Rn X d 117 20 LS (.int x :: .ref a :: ST) M h = q_p X (M a) a 5 2 (.int x) d 117 23 LS ST M h := s_putN mt_117 dX5_undo_20 f_5_41 rfl rfl rfl
theorem e117_23 : Rn X d 117 23 LS ST M h = Rn X d 117 24 LS (.int (zN 0) :: ST) M h := r_iconst mt_117 dX5_undo_23 c_ic0
theorem e117_24 (ho : j_one l0 = true) : Rn X d 117 24 (l0 :: l1 :: t) (.int x :: ST) M h = Rn X d 117 25 (l0 :: some (.int x) :: t) ST M h := r_istore_n mt_117 dX5_undo_24 (by show 1 < _; simp only [List.length_cons]; omega) ho rfl
theorem e117_25 : Rn X d 117 25 (l0 :: some (.int x) :: t) ST M h = Rn X d 117 26 (l0 :: some (.int x) :: t) (.int x :: ST) M h := r_iload_n mt_117 dX5_undo_25 rfl
theorem e117_26 : Rn X d 117 26 LS ST M h = Rn X d 117 29 LS (.int (zN 206) :: ST) M h := r_sipush mt_117 dX5_undo_26 c_si206
theorem e117_29 : Rn X d 117 29 LS (.int y :: .int x :: ST) M h = q_le X y x d 117 59 32 LS ST M h := s_icge mt_117 dX5_undo_29 rfl
theorem e117_32 : Rn X d 117 32 (some (.ref a) :: t) ST M h = Rn X d 117 33 (some (.ref a) :: t) (.ref a :: ST) M h := r_aload_n mt_117 dX5_undo_32 rfl
theorem e117_33 : Rn X d 117 33 LS (.ref a :: ST) M h = q_g X (M a) 5 0 d 117 36 LS ST M h := s_get mt_117 dX5_undo_33 f_5_7
theorem e117_36 : Rn X d 117 36 (l0 :: some (.int x) :: t) ST M h = Rn X d 117 37 (l0 :: some (.int x) :: t) (.int x :: ST) M h := r_iload_n mt_117 dX5_undo_36 rfl
theorem e117_37 : Rn X d 117 37 (some (.ref a) :: t) ST M h = Rn X d 117 38 (some (.ref a) :: t) (.ref a :: ST) M h := r_aload_n mt_117 dX5_undo_37 rfl
theorem e117_38 : Rn X d 117 38 LS (.ref a :: ST) M h = q_g X (M a) 5 1 d 117 41 LS ST M h := s_get mt_117 dX5_undo_38 f_5_13
theorem e117_41 : Rn X d 117 41 LS ST M h = Rn X d 117 44 LS (.int (zN 206) :: ST) M h := r_sipush mt_117 dX5_undo_41 c_si206
theorem e117_44 : Rn X d 117 44 (some (.ref a) :: t) ST M h = Rn X d 117 45 (some (.ref a) :: t) (.ref a :: ST) M h := r_aload_n mt_117 dX5_undo_44 rfl
theorem e117_45 : Rn X d 117 45 LS (.ref a :: ST) M h = q_g X (M a) 5 2 d 117 48 LS ST M h := s_get mt_117 dX5_undo_45 f_5_41
theorem e117_48 : Rn X d 117 48 LS (.int y :: .int x :: ST) M h = Rn X d 117 49 LS (.int (x * y) :: ST) M h := r_imul mt_117 dX5_undo_48
theorem e117_49 : Rn X d 117 49 (l0 :: some (.int x) :: t) ST M h = Rn X d 117 50 (l0 :: some (.int x) :: t) (.int x :: ST) M h := r_iload_n mt_117 dX5_undo_49 rfl
theorem e117_50 : Rn X d 117 50 LS (.int y :: .int x :: ST) M h = Rn X d 117 51 LS (.int (x + y) :: ST) M h := r_iadd mt_117 dX5_undo_50
theorem e117_51 : Rn X d 117 51 LS (.int x :: .ref a :: ST) M h = q_ld X (M a) a x d 117 52 LS ST M h := s_iald mt_117 dX5_undo_51
theorem e117_52 : Rn X d 117 52 LS (.int y :: .int x :: .ref a :: ST) M h = q_st X (M a) a x y d 117 53 LS ST M h := s_iast mt_117 dX5_undo_52
theorem e117_53 (ho : j_one l0 = true) : Rn X d 117 53 (l0 :: some (.int x) :: t) ST M h = Rn X d 117 56 (l0 :: some (.int (x + (zN 1))) :: t) ST M h := r_iinc mt_117 dX5_undo_53 rfl (by simp only [List.length_cons]; omega) ho c_ic1 rfl
theorem e117_56 : Rn X d 117 56 LS ST M h = Rn X d 117 25 LS ST M h := r_goto mt_117 dX5_undo_56 rfl
theorem e117_59 : Rn X d 117 59 (some (.ref a) :: t) ST M h = Rn X d 117 60 (some (.ref a) :: t) (.ref a :: ST) M h := r_aload_n mt_117 dX5_undo_59 rfl
theorem e117_60 : Rn X d 117 60 (some (.ref a) :: t) ST M h = Rn X d 117 61 (some (.ref a) :: t) (.ref a :: ST) M h := r_aload_n mt_117 dX5_undo_60 rfl
theorem e117_61 : Rn X d 117 61 LS (.ref a :: ST) M h = q_g X (M a) 5 2 d 117 64 LS ST M h := s_get mt_117 dX5_undo_61 f_5_41
theorem e117_64 (hcs : Nat.ble (j_cs ST) 8 = true) : Rn X (d + 1) 117 64 LS (.int x :: .ref a :: ST) M h = j_rc (M a) 5 (q_k X (Rn X d 103 0 [some (.ref a), some (.int x)] [] M (j_h0 h)) h (d + 1) 117 67 LS ST) := s_callV mt_117 dX5_undo_64 cl_5_54 mt_103 rfl rfl (Nat.le_add_left _ _) rfl rfl rfl rfl hcs
theorem e117_67 : Rn X d 117 67 LS ([.int x]) M h = some (.inl (some (.int x)), M, h) := r_iret mt_117 dX5_undo_67 rfl
theorem e118_0 : Rn X d 118 0 (l0 :: l1 :: some (.int x) :: t) ST M h = Rn X d 118 1 (l0 :: l1 :: some (.int x) :: t) (.int x :: ST) M h := r_iload_n mt_118 dX5_does_0 rfl
theorem e118_1 : Rn X d 118 1 (some (.ref a) :: t) ST M h = Rn X d 118 2 (some (.ref a) :: t) (.ref a :: ST) M h := r_aload_n mt_118 dX5_does_1 rfl
theorem e118_2 : Rn X d 118 2 (l0 :: l1 :: l2 :: some (.int x) :: t) ST M h = Rn X d 118 3 (l0 :: l1 :: l2 :: some (.int x) :: t) (.int x :: ST) M h := r_iload_n mt_118 dX5_does_2 rfl
theorem e118_3 : Rn X d 118 3 LS ST M h = Rn X d 118 4 LS (.int (zN 1) :: ST) M h := r_iconst mt_118 dX5_does_3 c_ic1
theorem e118_4 (hcs : Nat.ble (j_cs ST) 8 = true) : Rn X (d + 1) 118 4 LS (.int y :: .int x :: .ref a :: ST) M h = j_rc (M a) 5 (q_k X (Rn X d 108 0 [some (.ref a), some (.int x), some (.int y)] [] M (j_h0 h)) h (d + 1) 118 7 LS ST) := s_callV mt_118 dX5_does_4 cl_5_37 mt_108 rfl rfl (Nat.le_add_left _ _) rfl rfl rfl rfl hcs
theorem e118_7 : Rn X d 118 7 LS (.int y :: .int x :: ST) M h = Rn X d 118 8 LS (.int (x + y) :: ST) M h := r_iadd mt_118 dX5_does_7
theorem e118_8 (ho : j_one l3 = true) : Rn X d 118 8 (l0 :: l1 :: l2 :: l3 :: l4 :: t) (.int x :: ST) M h = Rn X d 118 10 (l0 :: l1 :: l2 :: l3 :: some (.int x) :: t) ST M h := r_istore mt_118 dX5_does_8 (by show 4 < _; simp only [List.length_cons]; omega) ho rfl
theorem e118_10 : Rn X d 118 10 (l0 :: l1 :: some (.int x) :: t) ST M h = Rn X d 118 11 (l0 :: l1 :: some (.int x) :: t) (.int x :: ST) M h := r_iload_n mt_118 dX5_does_10 rfl
theorem e118_11 : Rn X d 118 11 (some (.ref a) :: t) ST M h = Rn X d 118 12 (some (.ref a) :: t) (.ref a :: ST) M h := r_aload_n mt_118 dX5_does_11 rfl
theorem e118_12 : Rn X d 118 12 (l0 :: l1 :: l2 :: some (.int x) :: t) ST M h = Rn X d 118 13 (l0 :: l1 :: l2 :: some (.int x) :: t) (.int x :: ST) M h := r_iload_n mt_118 dX5_does_12 rfl
theorem e118_13 : Rn X d 118 13 LS ST M h = Rn X d 118 14 LS (.int (zN 2) :: ST) M h := r_iconst mt_118 dX5_does_13 c_ic2
theorem e118_14 (hcs : Nat.ble (j_cs ST) 8 = true) : Rn X (d + 1) 118 14 LS (.int y :: .int x :: .ref a :: ST) M h = j_rc (M a) 5 (q_k X (Rn X d 108 0 [some (.ref a), some (.int x), some (.int y)] [] M (j_h0 h)) h (d + 1) 118 17 LS ST) := s_callV mt_118 dX5_does_14 cl_5_37 mt_108 rfl rfl (Nat.le_add_left _ _) rfl rfl rfl rfl hcs
theorem e118_17 : Rn X d 118 17 LS (.int y :: .int x :: ST) M h = Rn X d 118 18 LS (.int (x + y) :: ST) M h := r_iadd mt_118 dX5_does_17
theorem e118_18 (ho : j_one l4 = true) : Rn X d 118 18 (l0 :: l1 :: l2 :: l3 :: l4 :: l5 :: t) (.int x :: ST) M h = Rn X d 118 20 (l0 :: l1 :: l2 :: l3 :: l4 :: some (.int x) :: t) ST M h := r_istore mt_118 dX5_does_18 (by show 5 < _; simp only [List.length_cons]; omega) ho rfl
theorem e118_20 : Rn X d 118 20 (some (.ref a) :: t) ST M h = Rn X d 118 21 (some (.ref a) :: t) (.ref a :: ST) M h := r_aload_n mt_118 dX5_does_20 rfl
theorem e118_21 : Rn X d 118 21 (l0 :: l1 :: l2 :: some (.int x) :: t) ST M h = Rn X d 118 22 (l0 :: l1 :: l2 :: some (.int x) :: t) (.int x :: ST) M h := r_iload_n mt_118 dX5_does_21 rfl
theorem e118_22 : Rn X d 118 22 LS ST M h = Rn X d 118 23 LS (.int (zN 3) :: ST) M h := r_iconst mt_118 dX5_does_22 c_ic3
theorem e118_23 (hcs : Nat.ble (j_cs ST) 8 = true) : Rn X (d + 1) 118 23 LS (.int y :: .int x :: .ref a :: ST) M h = j_rc (M a) 5 (q_k X (Rn X d 108 0 [some (.ref a), some (.int x), some (.int y)] [] M (j_h0 h)) h (d + 1) 118 26 LS ST) := s_callV mt_118 dX5_does_23 cl_5_37 mt_108 rfl rfl (Nat.le_add_left _ _) rfl rfl rfl rfl hcs
theorem e118_26 (ho : j_one l5 = true) : Rn X d 118 26 (l0 :: l1 :: l2 :: l3 :: l4 :: l5 :: l6 :: t) (.int x :: ST) M h = Rn X d 118 28 (l0 :: l1 :: l2 :: l3 :: l4 :: l5 :: some (.int x) :: t) ST M h := r_istore mt_118 dX5_does_26 (by show 6 < _; simp only [List.length_cons]; omega) ho rfl
theorem e118_28 : Rn X d 118 28 (l0 :: some (.ref a) :: t) ST M h = Rn X d 118 29 (l0 :: some (.ref a) :: t) (.ref a :: ST) M h := r_aload_n mt_118 dX5_does_28 rfl
theorem e118_29 : Rn X d 118 29 (l0 :: l1 :: l2 :: l3 :: some (.int x) :: t) ST M h = Rn X d 118 31 (l0 :: l1 :: l2 :: l3 :: some (.int x) :: t) (.int x :: ST) M h := r_iload mt_118 dX5_does_29 rfl
theorem e118_31 : Rn X d 118 31 LS (.int x :: .ref a :: ST) M h = q_ld X (M a) a x d 118 32 LS ST M h := s_iald mt_118 dX5_does_31
theorem e118_32 (ho : j_one l6 = true) : Rn X d 118 32 (l0 :: l1 :: l2 :: l3 :: l4 :: l5 :: l6 :: l7 :: t) (.int x :: ST) M h = Rn X d 118 34 (l0 :: l1 :: l2 :: l3 :: l4 :: l5 :: l6 :: some (.int x) :: t) ST M h := r_istore mt_118 dX5_does_32 (by show 7 < _; simp only [List.length_cons]; omega) ho rfl
theorem e118_34 : Rn X d 118 34 (l0 :: some (.ref a) :: t) ST M h = Rn X d 118 35 (l0 :: some (.ref a) :: t) (.ref a :: ST) M h := r_aload_n mt_118 dX5_does_34 rfl
theorem e118_35 : Rn X d 118 35 (l0 :: l1 :: l2 :: l3 :: l4 :: some (.int x) :: t) ST M h = Rn X d 118 37 (l0 :: l1 :: l2 :: l3 :: l4 :: some (.int x) :: t) (.int x :: ST) M h := r_iload mt_118 dX5_does_35 rfl
theorem e118_37 : Rn X d 118 37 LS (.int x :: .ref a :: ST) M h = q_ld X (M a) a x d 118 38 LS ST M h := s_iald mt_118 dX5_does_37
theorem e118_38 (ho : j_one l7 = true) : Rn X d 118 38 (l0 :: l1 :: l2 :: l3 :: l4 :: l5 :: l6 :: l7 :: l8 :: t) (.int x :: ST) M h = Rn X d 118 40 (l0 :: l1 :: l2 :: l3 :: l4 :: l5 :: l6 :: l7 :: some (.int x) :: t) ST M h := r_istore mt_118 dX5_does_38 (by show 8 < _; simp only [List.length_cons]; omega) ho rfl
theorem e118_40 : Rn X d 118 40 (some (.ref a) :: t) ST M h = Rn X d 118 41 (some (.ref a) :: t) (.ref a :: ST) M h := r_aload_n mt_118 dX5_does_40 rfl
theorem e118_41 : Rn X d 118 41 (l0 :: l1 :: l2 :: some (.int x) :: t) ST M h = Rn X d 118 42 (l0 :: l1 :: l2 :: some (.int x) :: t) (.int x :: ST) M h := r_iload_n mt_118 dX5_does_41 rfl
theorem e118_42 : Rn X d 118 42 LS ST M h = Rn X d 118 43 LS (.int (zN 0) :: ST) M h := r_iconst mt_118 dX5_does_42 c_ic0
theorem e118_43 (hcs : Nat.ble (j_cs ST) 8 = true) : Rn X (d + 1) 118 43 LS (.int y :: .int x :: .ref a :: ST) M h = j_rc (M a) 5 (q_k X (Rn X d 108 0 [some (.ref a), some (.int x), some (.int y)] [] M (j_h0 h)) h (d + 1) 118 46 LS ST) := s_callV mt_118 dX5_does_43 cl_5_37 mt_108 rfl rfl (Nat.le_add_left _ _) rfl rfl rfl rfl hcs
theorem e118_46_0 : Rn X d 118 46 LS (.int (zN 0) :: ST) M h = Rn X d 118 76 LS ST M h := s_tab (off := 30) mt_118 dX5_does_46 (by decide) (by decide) (by decide +kernel) rfl
theorem e118_46_1 : Rn X d 118 46 LS (.int (zN 1) :: ST) M h = Rn X d 118 103 LS ST M h := s_tab (off := 57) mt_118 dX5_does_46 (by decide) (by decide) (by decide +kernel) rfl
theorem e118_46_2 : Rn X d 118 46 LS (.int (zN 2) :: ST) M h = Rn X d 118 124 LS ST M h := s_tab (off := 78) mt_118 dX5_does_46 (by decide) (by decide) (by decide +kernel) rfl
theorem e118_46_3 : Rn X d 118 46 LS (.int (zN 3) :: ST) M h = Rn X d 118 183 LS ST M h := s_tab (off := 137) mt_118 dX5_does_46 (by decide) (by decide) (by decide +kernel) rfl
theorem e118_46_h {v : Nat} (h0 : v < 2147483648) (h1 : 3 < v) : Rn X d 118 46 LS (.int (zN v) :: ST) M h = Rn X d 118 196 LS ST M h := s_tabD mt_118 dX5_does_46 rfl h0 (Or.inr (by omega))
theorem e118_46_m {v : Nat} (h0 : v < 2147483648) : Rn X d 118 46 LS (.int (zM v) :: ST) M h = Rn X d 118 196 LS ST M h := s_tabM mt_118 dX5_does_46 rfl (by decide) h0
theorem e118_76 : Rn X d 118 76 (l0 :: some (.ref a) :: t) ST M h = Rn X d 118 77 (l0 :: some (.ref a) :: t) (.ref a :: ST) M h := r_aload_n mt_118 dX5_does_76 rfl
theorem e118_77 : Rn X d 118 77 (l0 :: l1 :: l2 :: l3 :: some (.int x) :: t) ST M h = Rn X d 118 79 (l0 :: l1 :: l2 :: l3 :: some (.int x) :: t) (.int x :: ST) M h := r_iload mt_118 dX5_does_77 rfl
theorem e118_79 : Rn X d 118 79 (l0 :: l1 :: l2 :: l3 :: l4 :: l5 :: l6 :: some (.int x) :: t) ST M h = Rn X d 118 81 (l0 :: l1 :: l2 :: l3 :: l4 :: l5 :: l6 :: some (.int x) :: t) (.int x :: ST) M h := r_iload mt_118 dX5_does_79 rfl
theorem e118_81 : Rn X d 118 81 (l0 :: l1 :: l2 :: l3 :: l4 :: l5 :: some (.int x) :: t) ST M h = Rn X d 118 83 (l0 :: l1 :: l2 :: l3 :: l4 :: l5 :: some (.int x) :: t) (.int x :: ST) M h := r_iload mt_118 dX5_does_81 rfl
theorem e118_83 : Rn X d 118 83 LS (.int y :: .int x :: ST) M h = Rn X d 118 84 LS (.int (x + y) :: ST) M h := r_iadd mt_118 dX5_does_83
theorem e118_84 : Rn X d 118 84 LS ST M h = Rn X d 118 87 LS (.int (zN 999) :: ST) M h := r_sipush mt_118 dX5_does_84 c_si999
theorem e118_87 : Rn X d 118 87 LS (.int y :: .int x :: ST) M h = q_le X x y d 118 96 90 LS ST M h := s_icle mt_118 dX5_does_87 rfl
theorem e118_90 : Rn X d 118 90 LS ST M h = Rn X d 118 93 LS (.int (zN 999) :: ST) M h := r_sipush mt_118 dX5_does_90 c_si999
theorem e118_93 : Rn X d 118 93 LS ST M h = Rn X d 118 101 LS ST M h := r_goto mt_118 dX5_does_93 rfl
theorem e118_96 : Rn X d 118 96 (l0 :: l1 :: l2 :: l3 :: l4 :: l5 :: l6 :: some (.int x) :: t) ST M h = Rn X d 118 98 (l0 :: l1 :: l2 :: l3 :: l4 :: l5 :: l6 :: some (.int x) :: t) (.int x :: ST) M h := r_iload mt_118 dX5_does_96 rfl
theorem e118_98 : Rn X d 118 98 (l0 :: l1 :: l2 :: l3 :: l4 :: l5 :: some (.int x) :: t) ST M h = Rn X d 118 100 (l0 :: l1 :: l2 :: l3 :: l4 :: l5 :: some (.int x) :: t) (.int x :: ST) M h := r_iload mt_118 dX5_does_98 rfl
theorem e118_100 : Rn X d 118 100 LS (.int y :: .int x :: ST) M h = Rn X d 118 101 LS (.int (x + y) :: ST) M h := r_iadd mt_118 dX5_does_100
theorem e118_101 : Rn X d 118 101 LS (.int y :: .int x :: .ref a :: ST) M h = q_st X (M a) a x y d 118 102 LS ST M h := s_iast mt_118 dX5_does_101
theorem e118_102 : Rn X d 118 102 LS [] M h = some (.inl none, M, h) := r_vret mt_118 dX5_does_102 rfl
theorem e118_103 : Rn X d 118 103 (l0 :: some (.ref a) :: t) ST M h = Rn X d 118 104 (l0 :: some (.ref a) :: t) (.ref a :: ST) M h := r_aload_n mt_118 dX5_does_103 rfl
theorem e118_104 : Rn X d 118 104 (l0 :: l1 :: l2 :: l3 :: some (.int x) :: t) ST M h = Rn X d 118 106 (l0 :: l1 :: l2 :: l3 :: some (.int x) :: t) (.int x :: ST) M h := r_iload mt_118 dX5_does_104 rfl
theorem e118_106 : Rn X d 118 106 (l0 :: l1 :: l2 :: l3 :: l4 :: l5 :: l6 :: some (.int x) :: t) ST M h = Rn X d 118 108 (l0 :: l1 :: l2 :: l3 :: l4 :: l5 :: l6 :: some (.int x) :: t) (.int x :: ST) M h := r_iload mt_118 dX5_does_106 rfl
theorem e118_108 : Rn X d 118 108 (l0 :: l1 :: l2 :: l3 :: l4 :: l5 :: some (.int x) :: t) ST M h = Rn X d 118 110 (l0 :: l1 :: l2 :: l3 :: l4 :: l5 :: some (.int x) :: t) (.int x :: ST) M h := r_iload mt_118 dX5_does_108 rfl
theorem e118_110 : Rn X d 118 110 LS (.int y :: .int x :: ST) M h = q_le X y x d 118 117 113 LS ST M h := s_icge mt_118 dX5_does_110 rfl
theorem e118_113 : Rn X d 118 113 LS ST M h = Rn X d 118 114 LS (.int (zN 0) :: ST) M h := r_iconst mt_118 dX5_does_113 c_ic0
theorem e118_114 : Rn X d 118 114 LS ST M h = Rn X d 118 122 LS ST M h := r_goto mt_118 dX5_does_114 rfl
theorem e118_117 : Rn X d 118 117 (l0 :: l1 :: l2 :: l3 :: l4 :: l5 :: l6 :: some (.int x) :: t) ST M h = Rn X d 118 119 (l0 :: l1 :: l2 :: l3 :: l4 :: l5 :: l6 :: some (.int x) :: t) (.int x :: ST) M h := r_iload mt_118 dX5_does_117 rfl
theorem e118_119 : Rn X d 118 119 (l0 :: l1 :: l2 :: l3 :: l4 :: l5 :: some (.int x) :: t) ST M h = Rn X d 118 121 (l0 :: l1 :: l2 :: l3 :: l4 :: l5 :: some (.int x) :: t) (.int x :: ST) M h := r_iload mt_118 dX5_does_119 rfl
theorem e118_121 : Rn X d 118 121 LS (.int y :: .int x :: ST) M h = Rn X d 118 122 LS (.int (x - y) :: ST) M h := r_isub mt_118 dX5_does_121
theorem e118_122 : Rn X d 118 122 LS (.int y :: .int x :: .ref a :: ST) M h = q_st X (M a) a x y d 118 123 LS ST M h := s_iast mt_118 dX5_does_122
theorem e118_123 : Rn X d 118 123 LS [] M h = some (.inl none, M, h) := r_vret mt_118 dX5_does_123 rfl
theorem e118_124 : Rn X d 118 124 (l0 :: l1 :: l2 :: l3 :: l4 :: l5 :: l6 :: some (.int x) :: t) ST M h = Rn X d 118 126 (l0 :: l1 :: l2 :: l3 :: l4 :: l5 :: l6 :: some (.int x) :: t) (.int x :: ST) M h := r_iload mt_118 dX5_does_124 rfl
theorem e118_126 : Rn X d 118 126 (l0 :: l1 :: l2 :: l3 :: l4 :: l5 :: some (.int x) :: t) ST M h = Rn X d 118 128 (l0 :: l1 :: l2 :: l3 :: l4 :: l5 :: some (.int x) :: t) (.int x :: ST) M h := r_iload mt_118 dX5_does_126 rfl
theorem e118_128 : Rn X d 118 128 LS (.int y :: .int x :: ST) M h = q_le X y x d 118 136 131 LS ST M h := s_icge mt_118 dX5_does_128 rfl
theorem e118_131 : Rn X d 118 131 (l0 :: l1 :: l2 :: l3 :: l4 :: l5 :: l6 :: some (.int x) :: t) ST M h = Rn X d 118 133 (l0 :: l1 :: l2 :: l3 :: l4 :: l5 :: l6 :: some (.int x) :: t) (.int x :: ST) M h := r_iload mt_118 dX5_does_131 rfl
theorem e118_133 : Rn X d 118 133 LS ST M h = Rn X d 118 138 LS ST M h := r_goto mt_118 dX5_does_133 rfl
theorem e118_136 : Rn X d 118 136 (l0 :: l1 :: l2 :: l3 :: l4 :: l5 :: some (.int x) :: t) ST M h = Rn X d 118 138 (l0 :: l1 :: l2 :: l3 :: l4 :: l5 :: some (.int x) :: t) (.int x :: ST) M h := r_iload mt_118 dX5_does_136 rfl
theorem e118_138 (ho : j_one l5 = true) : Rn X d 118 138 (l0 :: l1 :: l2 :: l3 :: l4 :: l5 :: l6 :: t) (.int x :: ST) M h = Rn X d 118 140 (l0 :: l1 :: l2 :: l3 :: l4 :: l5 :: some (.int x) :: t) ST M h := r_istore mt_118 dX5_does_138 (by show 6 < _; simp only [List.length_cons]; omega) ho rfl
theorem e118_140 : Rn X d 118 140 LS ST M h = Rn X d 118 143 LS (.int (zN 999) :: ST) M h := r_sipush mt_118 dX5_does_140 c_si999
theorem e118_143 : Rn X d 118 143 (l0 :: l1 :: l2 :: l3 :: l4 :: l5 :: l6 :: l7 :: some (.int x) :: t) ST M h = Rn X d 118 145 (l0 :: l1 :: l2 :: l3 :: l4 :: l5 :: l6 :: l7 :: some (.int x) :: t) (.int x :: ST) M h := r_iload mt_118 dX5_does_143 rfl
theorem e118_145 : Rn X d 118 145 LS (.int y :: .int x :: ST) M h = Rn X d 118 146 LS (.int (x - y) :: ST) M h := r_isub mt_118 dX5_does_145
theorem e118_146 : Rn X d 118 146 (l0 :: l1 :: l2 :: l3 :: l4 :: l5 :: some (.int x) :: t) ST M h = Rn X d 118 148 (l0 :: l1 :: l2 :: l3 :: l4 :: l5 :: some (.int x) :: t) (.int x :: ST) M h := r_iload mt_118 dX5_does_146 rfl
theorem e118_148 : Rn X d 118 148 LS (.int y :: .int x :: ST) M h = q_le X y x d 118 160 151 LS ST M h := s_icge mt_118 dX5_does_148 rfl
theorem e118_151 : Rn X d 118 151 LS ST M h = Rn X d 118 154 LS (.int (zN 999) :: ST) M h := r_sipush mt_118 dX5_does_151 c_si999
theorem e118_154 : Rn X d 118 154 (l0 :: l1 :: l2 :: l3 :: l4 :: l5 :: l6 :: l7 :: some (.int x) :: t) ST M h = Rn X d 118 156 (l0 :: l1 :: l2 :: l3 :: l4 :: l5 :: l6 :: l7 :: some (.int x) :: t) (.int x :: ST) M h := r_iload mt_118 dX5_does_154 rfl
theorem e118_156 : Rn X d 118 156 LS (.int y :: .int x :: ST) M h = Rn X d 118 157 LS (.int (x - y) :: ST) M h := r_isub mt_118 dX5_does_156
theorem e118_157 : Rn X d 118 157 LS ST M h = Rn X d 118 162 LS ST M h := r_goto mt_118 dX5_does_157 rfl
theorem e118_160 : Rn X d 118 160 (l0 :: l1 :: l2 :: l3 :: l4 :: l5 :: some (.int x) :: t) ST M h = Rn X d 118 162 (l0 :: l1 :: l2 :: l3 :: l4 :: l5 :: some (.int x) :: t) (.int x :: ST) M h := r_iload mt_118 dX5_does_160 rfl
theorem e118_162 (ho : j_one l5 = true) : Rn X d 118 162 (l0 :: l1 :: l2 :: l3 :: l4 :: l5 :: l6 :: t) (.int x :: ST) M h = Rn X d 118 164 (l0 :: l1 :: l2 :: l3 :: l4 :: l5 :: some (.int x) :: t) ST M h := r_istore mt_118 dX5_does_162 (by show 6 < _; simp only [List.length_cons]; omega) ho rfl
theorem e118_164 : Rn X d 118 164 (l0 :: some (.ref a) :: t) ST M h = Rn X d 118 165 (l0 :: some (.ref a) :: t) (.ref a :: ST) M h := r_aload_n mt_118 dX5_does_164 rfl
theorem e118_165 : Rn X d 118 165 (l0 :: l1 :: l2 :: l3 :: some (.int x) :: t) ST M h = Rn X d 118 167 (l0 :: l1 :: l2 :: l3 :: some (.int x) :: t) (.int x :: ST) M h := r_iload mt_118 dX5_does_165 rfl
theorem e118_167 : Rn X d 118 167 (l0 :: l1 :: l2 :: l3 :: l4 :: l5 :: l6 :: some (.int x) :: t) ST M h = Rn X d 118 169 (l0 :: l1 :: l2 :: l3 :: l4 :: l5 :: l6 :: some (.int x) :: t) (.int x :: ST) M h := r_iload mt_118 dX5_does_167 rfl
theorem e118_169 : Rn X d 118 169 (l0 :: l1 :: l2 :: l3 :: l4 :: l5 :: some (.int x) :: t) ST M h = Rn X d 118 171 (l0 :: l1 :: l2 :: l3 :: l4 :: l5 :: some (.int x) :: t) (.int x :: ST) M h := r_iload mt_118 dX5_does_169 rfl
theorem e118_171 : Rn X d 118 171 LS (.int y :: .int x :: ST) M h = Rn X d 118 172 LS (.int (x - y) :: ST) M h := r_isub mt_118 dX5_does_171
theorem e118_172 : Rn X d 118 172 LS (.int y :: .int x :: .ref a :: ST) M h = q_st X (M a) a x y d 118 173 LS ST M h := s_iast mt_118 dX5_does_172
theorem e118_173 : Rn X d 118 173 (l0 :: some (.ref a) :: t) ST M h = Rn X d 118 174 (l0 :: some (.ref a) :: t) (.ref a :: ST) M h := r_aload_n mt_118 dX5_does_173 rfl
theorem e118_174 : Rn X d 118 174 (l0 :: l1 :: l2 :: l3 :: l4 :: some (.int x) :: t) ST M h = Rn X d 118 176 (l0 :: l1 :: l2 :: l3 :: l4 :: some (.int x) :: t) (.int x :: ST) M h := r_iload mt_118 dX5_does_174 rfl
theorem e118_176 : Rn X d 118 176 (l0 :: l1 :: l2 :: l3 :: l4 :: l5 :: l6 :: l7 :: some (.int x) :: t) ST M h = Rn X d 118 178 (l0 :: l1 :: l2 :: l3 :: l4 :: l5 :: l6 :: l7 :: some (.int x) :: t) (.int x :: ST) M h := r_iload mt_118 dX5_does_176 rfl
theorem e118_178 : Rn X d 118 178 (l0 :: l1 :: l2 :: l3 :: l4 :: l5 :: some (.int x) :: t) ST M h = Rn X d 118 180 (l0 :: l1 :: l2 :: l3 :: l4 :: l5 :: some (.int x) :: t) (.int x :: ST) M h := r_iload mt_118 dX5_does_178 rfl
theorem e118_180 : Rn X d 118 180 LS (.int y :: .int x :: ST) M h = Rn X d 118 181 LS (.int (x + y) :: ST) M h := r_iadd mt_118 dX5_does_180
theorem e118_181 : Rn X d 118 181 LS (.int y :: .int x :: .ref a :: ST) M h = q_st X (M a) a x y d 118 182 LS ST M h := s_iast mt_118 dX5_does_181
theorem e118_182 : Rn X d 118 182 LS [] M h = some (.inl none, M, h) := r_vret mt_118 dX5_does_182 rfl
theorem e118_183 : Rn X d 118 183 (l0 :: some (.ref a) :: t) ST M h = Rn X d 118 184 (l0 :: some (.ref a) :: t) (.ref a :: ST) M h := r_aload_n mt_118 dX5_does_183 rfl
theorem e118_184 : Rn X d 118 184 (l0 :: l1 :: l2 :: l3 :: some (.int x) :: t) ST M h = Rn X d 118 186 (l0 :: l1 :: l2 :: l3 :: some (.int x) :: t) (.int x :: ST) M h := r_iload mt_118 dX5_does_184 rfl
theorem e118_186 : Rn X d 118 186 (l0 :: l1 :: l2 :: l3 :: l4 :: l5 :: l6 :: l7 :: some (.int x) :: t) ST M h = Rn X d 118 188 (l0 :: l1 :: l2 :: l3 :: l4 :: l5 :: l6 :: l7 :: some (.int x) :: t) (.int x :: ST) M h := r_iload mt_118 dX5_does_186 rfl
theorem e118_188 : Rn X d 118 188 LS (.int y :: .int x :: .ref a :: ST) M h = q_st X (M a) a x y d 118 189 LS ST M h := s_iast mt_118 dX5_does_188
theorem e118_189 : Rn X d 118 189 (l0 :: some (.ref a) :: t) ST M h = Rn X d 118 190 (l0 :: some (.ref a) :: t) (.ref a :: ST) M h := r_aload_n mt_118 dX5_does_189 rfl
theorem e118_190 : Rn X d 118 190 (l0 :: l1 :: l2 :: l3 :: l4 :: some (.int x) :: t) ST M h = Rn X d 118 192 (l0 :: l1 :: l2 :: l3 :: l4 :: some (.int x) :: t) (.int x :: ST) M h := r_iload mt_118 dX5_does_190 rfl
theorem e118_192 : Rn X d 118 192 (l0 :: l1 :: l2 :: l3 :: l4 :: l5 :: l6 :: some (.int x) :: t) ST M h = Rn X d 118 194 (l0 :: l1 :: l2 :: l3 :: l4 :: l5 :: l6 :: some (.int x) :: t) (.int x :: ST) M h := r_iload mt_118 dX5_does_192 rfl
theorem e118_194 : Rn X d 118 194 LS (.int y :: .int x :: .ref a :: ST) M h = q_st X (M a) a x y d 118 195 LS ST M h := s_iast mt_118 dX5_does_194
theorem e118_195 : Rn X d 118 195 LS [] M h = some (.inl none, M, h) := r_vret mt_118 dX5_does_195 rfl
theorem e118_196 : Rn X d 118 196 (l0 :: some (.ref a) :: t) ST M h = Rn X d 118 197 (l0 :: some (.ref a) :: t) (.ref a :: ST) M h := r_aload_n mt_118 dX5_does_196 rfl
theorem e118_197 : Rn X d 118 197 (l0 :: l1 :: l2 :: l3 :: l4 :: some (.int x) :: t) ST M h = Rn X d 118 199 (l0 :: l1 :: l2 :: l3 :: l4 :: some (.int x) :: t) (.int x :: ST) M h := r_iload mt_118 dX5_does_197 rfl
theorem e118_199 : Rn X d 118 199 (l0 :: l1 :: l2 :: l3 :: l4 :: l5 :: l6 :: some (.int x) :: t) ST M h = Rn X d 118 201 (l0 :: l1 :: l2 :: l3 :: l4 :: l5 :: l6 :: some (.int x) :: t) (.int x :: ST) M h := r_iload mt_118 dX5_does_199 rfl
theorem e118_201 : Rn X d 118 201 (l0 :: l1 :: l2 :: l3 :: l4 :: l5 :: l6 :: l7 :: some (.int x) :: t) ST M h = Rn X d 118 203 (l0 :: l1 :: l2 :: l3 :: l4 :: l5 :: l6 :: l7 :: some (.int x) :: t) (.int x :: ST) M h := r_iload mt_118 dX5_does_201 rfl
theorem e118_203 : Rn X d 118 203 LS (.int y :: .int x :: ST) M h = Rn X d 118 204 LS (.int (x + y) :: ST) M h := r_iadd mt_118 dX5_does_203
theorem e118_204 : Rn X d 118 204 LS ST M h = Rn X d 118 205 LS (.int (zN 2) :: ST) M h := r_iconst mt_118 dX5_does_204 c_ic2
theorem e118_205 : Rn X d 118 205 LS (.int y :: .int x :: ST) M h = q_dv X x y d 118 206 LS ST M h := s_idiv mt_118 dX5_does_205
theorem e118_206 : Rn X d 118 206 LS (.int y :: .int x :: .ref a :: ST) M h = q_st X (M a) a x y d 118 207 LS ST M h := s_iast mt_118 dX5_does_206
theorem e118_207 : Rn X d 118 207 (l0 :: some (.ref a) :: t) ST M h = Rn X d 118 208 (l0 :: some (.ref a) :: t) (.ref a :: ST) M h := r_aload_n mt_118 dX5_does_207 rfl
theorem e118_208 : Rn X d 118 208 (l0 :: l1 :: l2 :: l3 :: some (.int x) :: t) ST M h = Rn X d 118 210 (l0 :: l1 :: l2 :: l3 :: some (.int x) :: t) (.int x :: ST) M h := r_iload mt_118 dX5_does_208 rfl
theorem e118_210 : Rn X d 118 210 (l0 :: l1 :: l2 :: l3 :: l4 :: l5 :: l6 :: some (.int x) :: t) ST M h = Rn X d 118 212 (l0 :: l1 :: l2 :: l3 :: l4 :: l5 :: l6 :: some (.int x) :: t) (.int x :: ST) M h := r_iload mt_118 dX5_does_210 rfl
theorem e118_212 : Rn X d 118 212 (l0 :: l1 :: l2 :: l3 :: l4 :: l5 :: l6 :: l7 :: some (.int x) :: t) ST M h = Rn X d 118 214 (l0 :: l1 :: l2 :: l3 :: l4 :: l5 :: l6 :: l7 :: some (.int x) :: t) (.int x :: ST) M h := r_iload mt_118 dX5_does_212 rfl
theorem e118_214 : Rn X d 118 214 LS (.int y :: .int x :: ST) M h = Rn X d 118 215 LS (.int (x + y) :: ST) M h := r_iadd mt_118 dX5_does_214
theorem e118_215 : Rn X d 118 215 (l0 :: some (.ref a) :: t) ST M h = Rn X d 118 216 (l0 :: some (.ref a) :: t) (.ref a :: ST) M h := r_aload_n mt_118 dX5_does_215 rfl
theorem e118_216 : Rn X d 118 216 (l0 :: l1 :: l2 :: l3 :: l4 :: some (.int x) :: t) ST M h = Rn X d 118 218 (l0 :: l1 :: l2 :: l3 :: l4 :: some (.int x) :: t) (.int x :: ST) M h := r_iload mt_118 dX5_does_216 rfl
theorem e118_218 : Rn X d 118 218 LS (.int x :: .ref a :: ST) M h = q_ld X (M a) a x d 118 219 LS ST M h := s_iald mt_118 dX5_does_218
theorem e118_219 : Rn X d 118 219 LS (.int y :: .int x :: ST) M h = Rn X d 118 220 LS (.int (x - y) :: ST) M h := r_isub mt_118 dX5_does_219
theorem e118_220 : Rn X d 118 220 LS (.int y :: .int x :: .ref a :: ST) M h = q_st X (M a) a x y d 118 221 LS ST M h := s_iast mt_118 dX5_does_220
theorem e118_221 : Rn X d 118 221 LS [] M h = some (.inl none, M, h) := r_vret mt_118 dX5_does_221 rfl
theorem e119_0 : Rn X d 119 0 (some (.ref a) :: t) ST M h = Rn X d 119 1 (some (.ref a) :: t) (.ref a :: ST) M h := r_aload_n mt_119 dX5_stopOf_0 rfl
theorem e119_1 : Rn X d 119 1 (l0 :: some (.int x) :: t) ST M h = Rn X d 119 2 (l0 :: some (.int x) :: t) (.int x :: ST) M h := r_iload_n mt_119 dX5_stopOf_1 rfl
theorem e119_2 : Rn X d 119 2 LS ST M h = Rn X d 119 3 LS (.int (zN 0) :: ST) M h := r_iconst mt_119 dX5_stopOf_2 c_ic0
theorem e119_3 (hcs : Nat.ble (j_cs ST) 8 = true) : Rn X (d + 1) 119 3 LS (.int y :: .int x :: .ref a :: ST) M h = j_rc (M a) 5 (q_k X (Rn X d 106 0 [some (.ref a), some (.int x), some (.int y)] [] M (j_h0 h)) h (d + 1) 119 6 LS ST) := s_callV mt_119 dX5_stopOf_3 cl_5_57 mt_106 rfl rfl (Nat.le_add_left _ _) rfl rfl rfl rfl hcs
theorem e119_6 (ho : j_one l1 = true) : Rn X d 119 6 (l0 :: l1 :: l2 :: t) (.int x :: ST) M h = Rn X d 119 7 (l0 :: l1 :: some (.int x) :: t) ST M h := r_istore_n mt_119 dX5_stopOf_6 (by show 2 < _; simp only [List.length_cons]; omega) ho rfl
theorem e119_7 : Rn X d 119 7 (l0 :: l1 :: some (.int x) :: t) ST M h = Rn X d 119 8 (l0 :: l1 :: some (.int x) :: t) (.int x :: ST) M h := r_iload_n mt_119 dX5_stopOf_7 rfl
theorem e119_8 : Rn X d 119 8 (some (.ref a) :: t) ST M h = Rn X d 119 9 (some (.ref a) :: t) (.ref a :: ST) M h := r_aload_n mt_119 dX5_stopOf_8 rfl
theorem e119_9 : Rn X d 119 9 LS (.ref a :: ST) M h = q_g X (M a) 5 0 d 119 12 LS ST M h := s_get mt_119 dX5_stopOf_9 f_5_7
theorem e119_12 : Rn X d 119 12 LS ST M h = Rn X d 119 13 LS (.int (zN 2) :: ST) M h := r_iconst mt_119 dX5_stopOf_12 c_ic2
theorem e119_13 : Rn X d 119 13 LS (.int x :: .ref a :: ST) M h = q_ld X (M a) a x d 119 14 LS ST M h := s_iald mt_119 dX5_stopOf_13
theorem e119_14 : Rn X d 119 14 LS (.int y :: .int x :: ST) M h = q_le X y x d 119 31 17 LS ST M h := s_icge mt_119 dX5_stopOf_14 rfl
theorem e119_17 : Rn X d 119 17 (some (.ref a) :: t) ST M h = Rn X d 119 18 (some (.ref a) :: t) (.ref a :: ST) M h := r_aload_n mt_119 dX5_stopOf_17 rfl
theorem e119_18 : Rn X d 119 18 (l0 :: l1 :: some (.int x) :: t) ST M h = Rn X d 119 19 (l0 :: l1 :: some (.int x) :: t) (.int x :: ST) M h := r_iload_n mt_119 dX5_stopOf_18 rfl
theorem e119_19 (hcs : Nat.ble (j_cs ST) 8 = true) : Rn X (d + 1) 119 19 LS (.int x :: .ref a :: ST) M h = j_rc (M a) 5 (q_k X (Rn X d 112 0 [some (.ref a), some (.int x)] [] M (j_h0 h)) h (d + 1) 119 22 LS ST) := s_callV mt_119 dX5_stopOf_19 cl_5_60 mt_112 rfl rfl (Nat.le_add_left _ _) rfl rfl rfl rfl hcs
theorem e119_22 : Rn X d 119 22 LS (.int x :: ST) M h = q_eq X x (zN 0) d 119 31 25 LS ST M h := s_ifeq mt_119 dX5_stopOf_22 rfl
theorem e119_25 (ho : j_one l1 = true) : Rn X d 119 25 (l0 :: l1 :: some (.int x) :: t) ST M h = Rn X d 119 28 (l0 :: l1 :: some (.int (x + (zN 1))) :: t) ST M h := r_iinc mt_119 dX5_stopOf_25 rfl (by simp only [List.length_cons]; omega) ho c_ic1 rfl
theorem e119_28 : Rn X d 119 28 LS ST M h = Rn X d 119 7 LS ST M h := r_goto mt_119 dX5_stopOf_28 rfl
theorem e119_31 : Rn X d 119 31 (l0 :: l1 :: some (.int x) :: t) ST M h = Rn X d 119 32 (l0 :: l1 :: some (.int x) :: t) (.int x :: ST) M h := r_iload_n mt_119 dX5_stopOf_31 rfl
theorem e119_32 : Rn X d 119 32 LS ([.int x]) M h = some (.inl (some (.int x)), M, h) := r_iret mt_119 dX5_stopOf_32 rfl
theorem e120_0 : Rn X d 120 0 (some (.ref a) :: t) ST M h = Rn X d 120 1 (some (.ref a) :: t) (.ref a :: ST) M h := r_aload_n mt_120 dX5_couldReplay_0 rfl
theorem e120_1 : Rn X d 120 1 (l0 :: some (.int x) :: t) ST M h = Rn X d 120 2 (l0 :: some (.int x) :: t) (.int x :: ST) M h := r_iload_n mt_120 dX5_couldReplay_1 rfl
theorem e120_2 : Rn X d 120 2 LS ST M h = Rn X d 120 3 LS (.int (zN 1) :: ST) M h := r_iconst mt_120 dX5_couldReplay_2 c_ic1
theorem e120_3 (hcs : Nat.ble (j_cs ST) 8 = true) : Rn X (d + 1) 120 3 LS (.int y :: .int x :: .ref a :: ST) M h = j_rc (M a) 5 (q_k X (Rn X d 106 0 [some (.ref a), some (.int x), some (.int y)] [] M (j_h0 h)) h (d + 1) 120 6 LS ST) := s_callV mt_120 dX5_couldReplay_3 cl_5_57 mt_106 rfl rfl (Nat.le_add_left _ _) rfl rfl rfl rfl hcs
theorem e120_6 : Rn X d 120 6 LS ST M h = Rn X d 120 7 LS (.int (zN 1) :: ST) M h := r_iconst mt_120 dX5_couldReplay_6 c_ic1
theorem e120_7 : Rn X d 120 7 LS (.int y :: .int x :: ST) M h = q_eq X x y d 120 10 25 LS ST M h := s_icne mt_120 dX5_couldReplay_7 rfl
theorem e120_10 : Rn X d 120 10 (some (.ref a) :: t) ST M h = Rn X d 120 11 (some (.ref a) :: t) (.ref a :: ST) M h := r_aload_n mt_120 dX5_couldReplay_10 rfl
theorem e120_11 : Rn X d 120 11 (l0 :: some (.int x) :: t) ST M h = Rn X d 120 12 (l0 :: some (.int x) :: t) (.int x :: ST) M h := r_iload_n mt_120 dX5_couldReplay_11 rfl
theorem e120_12 (hcs : Nat.ble (j_cs ST) 8 = true) : Rn X (d + 1) 120 12 LS (.int x :: .ref a :: ST) M h = j_rc (M a) 5 (q_k X (Rn X d 119 0 [some (.ref a), some (.int x), none] [] M (j_h0 h)) h (d + 1) 120 15 LS ST) := s_callV mt_120 dX5_couldReplay_12 cl_5_64 mt_119 rfl rfl (Nat.le_add_left _ _) rfl rfl rfl rfl hcs
theorem e120_15 : Rn X d 120 15 (some (.ref a) :: t) ST M h = Rn X d 120 16 (some (.ref a) :: t) (.ref a :: ST) M h := r_aload_n mt_120 dX5_couldReplay_15 rfl
theorem e120_16 : Rn X d 120 16 (l0 :: some (.int x) :: t) ST M h = Rn X d 120 17 (l0 :: some (.int x) :: t) (.int x :: ST) M h := r_iload_n mt_120 dX5_couldReplay_16 rfl
theorem e120_17 : Rn X d 120 17 LS ST M h = Rn X d 120 18 LS (.int (zN 0) :: ST) M h := r_iconst mt_120 dX5_couldReplay_17 c_ic0
theorem e120_18 (hcs : Nat.ble (j_cs ST) 8 = true) : Rn X (d + 1) 120 18 LS (.int y :: .int x :: .ref a :: ST) M h = j_rc (M a) 5 (q_k X (Rn X d 106 0 [some (.ref a), some (.int x), some (.int y)] [] M (j_h0 h)) h (d + 1) 120 21 LS ST) := s_callV mt_120 dX5_couldReplay_18 cl_5_57 mt_106 rfl rfl (Nat.le_add_left _ _) rfl rfl rfl rfl hcs
theorem e120_21 : Rn X d 120 21 LS (.int y :: .int x :: ST) M h = Rn X d 120 22 LS (.int (x - y) :: ST) M h := r_isub mt_120 dX5_couldReplay_21
theorem e120_22 : Rn X d 120 22 LS ST M h = Rn X d 120 26 LS ST M h := r_goto mt_120 dX5_couldReplay_22 rfl
theorem e120_25 : Rn X d 120 25 LS ST M h = Rn X d 120 26 LS (.int (zN 0) :: ST) M h := r_iconst mt_120 dX5_couldReplay_25 c_ic0
theorem e120_26 : Rn X d 120 26 LS ([.int x]) M h = some (.inl (some (.int x)), M, h) := r_iret mt_120 dX5_couldReplay_26 rfl
theorem e121_0 : Rn X d 121 0 (some (.ref a) :: t) ST M h = Rn X d 121 1 (some (.ref a) :: t) (.ref a :: ST) M h := r_aload_n mt_121 dX5_leastSnapshot_0 rfl
theorem e121_1 : Rn X d 121 1 LS ST M h = Rn X d 121 2 LS (.int (zN 0) :: ST) M h := r_iconst mt_121 dX5_leastSnapshot_1 c_ic0
theorem e121_2 : Rn X d 121 2 LS ST M h = Rn X d 121 3 LS (.int (zN 4) :: ST) M h := r_iconst mt_121 dX5_leastSnapshot_2 c_ic4
theorem e121_3 (hcs : Nat.ble (j_cs ST) 8 = true) : Rn X (d + 1) 121 3 LS (.int y :: .int x :: .ref a :: ST) M h = j_rc (M a) 5 (q_k X (Rn X d 106 0 [some (.ref a), some (.int x), some (.int y)] [] M (j_h0 h)) h (d + 1) 121 6 LS ST) := s_callV mt_121 dX5_leastSnapshot_3 cl_5_57 mt_106 rfl rfl (Nat.le_add_left _ _) rfl rfl rfl rfl hcs
theorem e121_6 : Rn X d 121 6 (some (.ref a) :: t) ST M h = Rn X d 121 7 (some (.ref a) :: t) (.ref a :: ST) M h := r_aload_n mt_121 dX5_leastSnapshot_6 rfl
theorem e121_7 : Rn X d 121 7 LS ST M h = Rn X d 121 8 LS (.int (zN 1) :: ST) M h := r_iconst mt_121 dX5_leastSnapshot_7 c_ic1
theorem e121_8 : Rn X d 121 8 LS ST M h = Rn X d 121 9 LS (.int (zN 4) :: ST) M h := r_iconst mt_121 dX5_leastSnapshot_8 c_ic4
theorem e121_9 (hcs : Nat.ble (j_cs ST) 8 = true) : Rn X (d + 1) 121 9 LS (.int y :: .int x :: .ref a :: ST) M h = j_rc (M a) 5 (q_k X (Rn X d 106 0 [some (.ref a), some (.int x), some (.int y)] [] M (j_h0 h)) h (d + 1) 121 12 LS ST) := s_callV mt_121 dX5_leastSnapshot_9 cl_5_57 mt_106 rfl rfl (Nat.le_add_left _ _) rfl rfl rfl rfl hcs
theorem e121_12 : Rn X d 121 12 LS (.int y :: .int x :: ST) M h = q_le X y x d 121 24 15 LS ST M h := s_icge mt_121 dX5_leastSnapshot_12 rfl
theorem e121_15 : Rn X d 121 15 (some (.ref a) :: t) ST M h = Rn X d 121 16 (some (.ref a) :: t) (.ref a :: ST) M h := r_aload_n mt_121 dX5_leastSnapshot_15 rfl
theorem e121_16 : Rn X d 121 16 LS ST M h = Rn X d 121 17 LS (.int (zN 0) :: ST) M h := r_iconst mt_121 dX5_leastSnapshot_16 c_ic0
theorem e121_17 : Rn X d 121 17 LS ST M h = Rn X d 121 18 LS (.int (zN 4) :: ST) M h := r_iconst mt_121 dX5_leastSnapshot_17 c_ic4
theorem e121_18 (hcs : Nat.ble (j_cs ST) 8 = true) : Rn X (d + 1) 121 18 LS (.int y :: .int x :: .ref a :: ST) M h = j_rc (M a) 5 (q_k X (Rn X d 106 0 [some (.ref a), some (.int x), some (.int y)] [] M (j_h0 h)) h (d + 1) 121 21 LS ST) := s_callV mt_121 dX5_leastSnapshot_18 cl_5_57 mt_106 rfl rfl (Nat.le_add_left _ _) rfl rfl rfl rfl hcs
theorem e121_21 : Rn X d 121 21 LS ST M h = Rn X d 121 30 LS ST M h := r_goto mt_121 dX5_leastSnapshot_21 rfl
theorem e121_24 : Rn X d 121 24 (some (.ref a) :: t) ST M h = Rn X d 121 25 (some (.ref a) :: t) (.ref a :: ST) M h := r_aload_n mt_121 dX5_leastSnapshot_24 rfl
theorem e121_25 : Rn X d 121 25 LS ST M h = Rn X d 121 26 LS (.int (zN 1) :: ST) M h := r_iconst mt_121 dX5_leastSnapshot_25 c_ic1
theorem e121_26 : Rn X d 121 26 LS ST M h = Rn X d 121 27 LS (.int (zN 4) :: ST) M h := r_iconst mt_121 dX5_leastSnapshot_26 c_ic4
theorem e121_27 (hcs : Nat.ble (j_cs ST) 8 = true) : Rn X (d + 1) 121 27 LS (.int y :: .int x :: .ref a :: ST) M h = j_rc (M a) 5 (q_k X (Rn X d 106 0 [some (.ref a), some (.int x), some (.int y)] [] M (j_h0 h)) h (d + 1) 121 30 LS ST) := s_callV mt_121 dX5_leastSnapshot_27 cl_5_57 mt_106 rfl rfl (Nat.le_add_left _ _) rfl rfl rfl rfl hcs
theorem e121_30 : Rn X d 121 30 LS ([.int x]) M h = some (.inl (some (.int x)), M, h) := r_iret mt_121 dX5_leastSnapshot_30 rfl
theorem e122_0 : Rn X d 122 0 (l0 :: some (.int x) :: t) ST M h = Rn X d 122 1 (l0 :: some (.int x) :: t) (.int x :: ST) M h := r_iload_n mt_122 dX5_writes_0 rfl
theorem e122_1 : Rn X d 122 1 LS ST M h = Rn X d 122 2 LS (.int (zN 0) :: ST) M h := r_iconst mt_122 dX5_writes_1 c_ic0
theorem e122_2 : Rn X d 122 2 LS ST M h = Rn X d 122 3 LS (.int (zN 4) :: ST) M h := r_iconst mt_122 dX5_writes_2 c_ic4
theorem e122_3 (hcs : Nat.ble (j_cs ST) 8 = true) : Rn X (d + 1) 122 3 LS (.int z :: .int y :: .int x :: ST) M h = q_k X (Rn X d 104 0 [some (.int x), some (.int y), some (.int z)] [] M (j_h0 h)) h (d + 1) 122 6 LS ST := s_callS (Or.inl rfl) mt_122 dX5_writes_3 cl_5_33 mt_104 rfl (Nat.le_add_left _ _) rfl rfl rfl rfl hcs
theorem e122_6 : Rn X d 122 6 LS (.int x :: ST) M h = q_eq X x (zN 0) d 122 50 9 LS ST M h := s_ifeq mt_122 dX5_writes_6 rfl
theorem e122_9 : Rn X d 122 9 (l0 :: l1 :: some (.int x) :: t) ST M h = Rn X d 122 10 (l0 :: l1 :: some (.int x) :: t) (.int x :: ST) M h := r_iload_n mt_122 dX5_writes_9 rfl
theorem e122_10 : Rn X d 122 10 LS ST M h = Rn X d 122 11 LS (.int (zN 0) :: ST) M h := r_iconst mt_122 dX5_writes_10 c_ic0
theorem e122_11 : Rn X d 122 11 LS ST M h = Rn X d 122 13 LS (.int (zN 7) :: ST) M h := r_bipush mt_122 dX5_writes_11 c_bi7
theorem e122_13 (hcs : Nat.ble (j_cs ST) 8 = true) : Rn X (d + 1) 122 13 LS (.int z :: .int y :: .int x :: ST) M h = q_k X (Rn X d 104 0 [some (.int x), some (.int y), some (.int z)] [] M (j_h0 h)) h (d + 1) 122 16 LS ST := s_callS (Or.inl rfl) mt_122 dX5_writes_13 cl_5_33 mt_104 rfl (Nat.le_add_left _ _) rfl rfl rfl rfl hcs
theorem e122_16 : Rn X d 122 16 LS (.int x :: ST) M h = q_eq X x (zN 0) d 122 50 19 LS ST M h := s_ifeq mt_122 dX5_writes_16 rfl
theorem e122_19 : Rn X d 122 19 (l0 :: l1 :: l2 :: some (.int x) :: t) ST M h = Rn X d 122 20 (l0 :: l1 :: l2 :: some (.int x) :: t) (.int x :: ST) M h := r_iload_n mt_122 dX5_writes_19 rfl
theorem e122_20 : Rn X d 122 20 LS ST M h = Rn X d 122 21 LS (.int (zN 0) :: ST) M h := r_iconst mt_122 dX5_writes_20 c_ic0
theorem e122_21 : Rn X d 122 21 LS ST M h = Rn X d 122 23 LS (.int (zN 7) :: ST) M h := r_bipush mt_122 dX5_writes_21 c_bi7
theorem e122_23 (hcs : Nat.ble (j_cs ST) 8 = true) : Rn X (d + 1) 122 23 LS (.int z :: .int y :: .int x :: ST) M h = q_k X (Rn X d 104 0 [some (.int x), some (.int y), some (.int z)] [] M (j_h0 h)) h (d + 1) 122 26 LS ST := s_callS (Or.inl rfl) mt_122 dX5_writes_23 cl_5_33 mt_104 rfl (Nat.le_add_left _ _) rfl rfl rfl rfl hcs
theorem e122_26 : Rn X d 122 26 LS (.int x :: ST) M h = q_eq X x (zN 0) d 122 50 29 LS ST M h := s_ifeq mt_122 dX5_writes_26 rfl
theorem e122_29 : Rn X d 122 29 (l0 :: l1 :: l2 :: l3 :: some (.int x) :: t) ST M h = Rn X d 122 31 (l0 :: l1 :: l2 :: l3 :: some (.int x) :: t) (.int x :: ST) M h := r_iload mt_122 dX5_writes_29 rfl
theorem e122_31 : Rn X d 122 31 LS ST M h = Rn X d 122 32 LS (.int (zN 1) :: ST) M h := r_iconst mt_122 dX5_writes_31 c_ic1
theorem e122_32 : Rn X d 122 32 LS ST M h = Rn X d 122 34 LS (.int (zN 99) :: ST) M h := r_bipush mt_122 dX5_writes_32 c_bi99
theorem e122_34 (hcs : Nat.ble (j_cs ST) 8 = true) : Rn X (d + 1) 122 34 LS (.int z :: .int y :: .int x :: ST) M h = q_k X (Rn X d 104 0 [some (.int x), some (.int y), some (.int z)] [] M (j_h0 h)) h (d + 1) 122 37 LS ST := s_callS (Or.inl rfl) mt_122 dX5_writes_34 cl_5_33 mt_104 rfl (Nat.le_add_left _ _) rfl rfl rfl rfl hcs
theorem e122_37 : Rn X d 122 37 LS (.int x :: ST) M h = q_eq X x (zN 0) d 122 50 40 LS ST M h := s_ifeq mt_122 dX5_writes_37 rfl
theorem e122_40 : Rn X d 122 40 (l0 :: some (.int x) :: t) ST M h = Rn X d 122 41 (l0 :: some (.int x) :: t) (.int x :: ST) M h := r_iload_n mt_122 dX5_writes_40 rfl
theorem e122_41 : Rn X d 122 41 LS ST M h = Rn X d 122 42 LS (.int (zN 1) :: ST) M h := r_iconst mt_122 dX5_writes_41 c_ic1
theorem e122_42 : Rn X d 122 42 LS (.int y :: .int x :: ST) M h = q_le X x y d 122 52 45 LS ST M h := s_icle mt_122 dX5_writes_42 rfl
theorem e122_45 : Rn X d 122 45 (l0 :: l1 :: some (.int x) :: t) ST M h = Rn X d 122 46 (l0 :: l1 :: some (.int x) :: t) (.int x :: ST) M h := r_iload_n mt_122 dX5_writes_45 rfl
theorem e122_46 : Rn X d 122 46 (l0 :: l1 :: l2 :: some (.int x) :: t) ST M h = Rn X d 122 47 (l0 :: l1 :: l2 :: some (.int x) :: t) (.int x :: ST) M h := r_iload_n mt_122 dX5_writes_46 rfl
theorem e122_47 : Rn X d 122 47 LS (.int y :: .int x :: ST) M h = q_eq X x y d 122 50 52 LS ST M h := s_icne mt_122 dX5_writes_47 rfl
theorem e122_50 : Rn X d 122 50 LS ST M h = Rn X d 122 51 LS (.int (zN 1) :: ST) M h := r_iconst mt_122 dX5_writes_50 c_ic1
theorem e122_51 : Rn X d 122 51 LS ([.int x]) M h = some (.inl (some (.int x)), M, h) := r_iret mt_122 dX5_writes_51 rfl
theorem e122_52 : Rn X d 122 52 (some (.ref a) :: t) ST M h = Rn X d 122 53 (some (.ref a) :: t) (.ref a :: ST) M h := r_aload_n mt_122 dX5_writes_52 rfl
theorem e122_53 (hcs : Nat.ble (j_cs ST) 8 = true) : Rn X (d + 1) 122 53 LS (.ref a :: ST) M h = j_rc (M a) 5 (q_k X (Rn X d 113 0 [some (.ref a)] [] M (j_h0 h)) h (d + 1) 122 56 LS ST) := s_callV mt_122 dX5_writes_53 cl_5_67 mt_113 rfl rfl (Nat.le_add_left _ _) rfl rfl rfl rfl hcs
theorem e122_56 : Rn X d 122 56 (some (.ref a) :: t) ST M h = Rn X d 122 57 (some (.ref a) :: t) (.ref a :: ST) M h := r_aload_n mt_122 dX5_writes_56 rfl
theorem e122_57 : Rn X d 122 57 LS (.ref a :: ST) M h = q_g X (M a) 5 0 d 122 60 LS ST M h := s_get mt_122 dX5_writes_57 f_5_7
theorem e122_60 : Rn X d 122 60 LS ST M h = Rn X d 122 61 LS (.int (zN 0) :: ST) M h := r_iconst mt_122 dX5_writes_60 c_ic0
theorem e122_61 : Rn X d 122 61 LS (.int x :: .ref a :: ST) M h = q_ld X (M a) a x d 122 62 LS ST M h := s_iald mt_122 dX5_writes_61
theorem e122_62 : Rn X d 122 62 LS (.int y :: .int x :: ST) M h = q_eq X x y d 122 65 67 LS ST M h := s_icne mt_122 dX5_writes_62 rfl
theorem e122_65 : Rn X d 122 65 LS ST M h = Rn X d 122 66 LS (.int (zN 2) :: ST) M h := r_iconst mt_122 dX5_writes_65 c_ic2
theorem e122_66 : Rn X d 122 66 LS ([.int x]) M h = some (.inl (some (.int x)), M, h) := r_iret mt_122 dX5_writes_66 rfl
theorem e122_67 : Rn X d 122 67 (some (.ref a) :: t) ST M h = Rn X d 122 68 (some (.ref a) :: t) (.ref a :: ST) M h := r_aload_n mt_122 dX5_writes_67 rfl
theorem e122_68 : Rn X d 122 68 (some (.ref a) :: t) ST M h = Rn X d 122 69 (some (.ref a) :: t) (.ref a :: ST) M h := r_aload_n mt_122 dX5_writes_68 rfl
theorem e122_69 : Rn X d 122 69 LS (.ref a :: ST) M h = q_g X (M a) 5 0 d 122 72 LS ST M h := s_get mt_122 dX5_writes_69 f_5_7
theorem e122_72 : Rn X d 122 72 LS ST M h = Rn X d 122 73 LS (.int (zN 2) :: ST) M h := r_iconst mt_122 dX5_writes_72 c_ic2
theorem e122_73 : Rn X d 122 73 LS (.int x :: .ref a :: ST) M h = q_ld X (M a) a x d 122 74 LS ST M h := s_iald mt_122 dX5_writes_73
theorem e122_74 : Rn X d 122 74 LS (.int x :: .ref a :: ST) M h = q_p X (M a) a 5 8 (.int x) d 122 77 LS ST M h := s_putN mt_122 dX5_writes_74 f_5_51 rfl rfl rfl
theorem e122_77 : Rn X d 122 77 (some (.ref a) :: t) ST M h = Rn X d 122 78 (some (.ref a) :: t) (.ref a :: ST) M h := r_aload_n mt_122 dX5_writes_77 rfl
theorem e122_78 : Rn X d 122 78 (some (.ref a) :: t) ST M h = Rn X d 122 79 (some (.ref a) :: t) (.ref a :: ST) M h := r_aload_n mt_122 dX5_writes_78 rfl
theorem e122_79 : Rn X d 122 79 LS (.ref a :: ST) M h = q_g X (M a) 5 8 d 122 82 LS ST M h := s_get mt_122 dX5_writes_79 f_5_51
theorem e122_82 : Rn X d 122 82 LS ST M h = Rn X d 122 83 LS (.int (zN 0) :: ST) M h := r_iconst mt_122 dX5_writes_82 c_ic0
theorem e122_83 : Rn X d 122 83 (l0 :: some (.int x) :: t) ST M h = Rn X d 122 84 (l0 :: some (.int x) :: t) (.int x :: ST) M h := r_iload_n mt_122 dX5_writes_83 rfl
theorem e122_84 (hcs : Nat.ble (j_cs ST) 8 = true) : Rn X (d + 1) 122 84 LS (.int z :: .int y :: .int x :: .ref a :: ST) M h = j_rc (M a) 5 (q_k X (Rn X d 109 0 [some (.ref a), some (.int x), some (.int y), some (.int z)] [] M (j_h0 h)) h (d + 1) 122 87 LS ST) := s_callV mt_122 dX5_writes_84 cl_5_71 mt_109 rfl rfl (Nat.le_add_left _ _) rfl rfl rfl rfl hcs
theorem e122_87 : Rn X d 122 87 (some (.ref a) :: t) ST M h = Rn X d 122 88 (some (.ref a) :: t) (.ref a :: ST) M h := r_aload_n mt_122 dX5_writes_87 rfl
theorem e122_88 : Rn X d 122 88 (some (.ref a) :: t) ST M h = Rn X d 122 89 (some (.ref a) :: t) (.ref a :: ST) M h := r_aload_n mt_122 dX5_writes_88 rfl
theorem e122_89 : Rn X d 122 89 LS (.ref a :: ST) M h = q_g X (M a) 5 8 d 122 92 LS ST M h := s_get mt_122 dX5_writes_89 f_5_51
theorem e122_92 : Rn X d 122 92 LS ST M h = Rn X d 122 93 LS (.int (zN 1) :: ST) M h := r_iconst mt_122 dX5_writes_92 c_ic1
theorem e122_93 : Rn X d 122 93 (l0 :: l1 :: some (.int x) :: t) ST M h = Rn X d 122 94 (l0 :: l1 :: some (.int x) :: t) (.int x :: ST) M h := r_iload_n mt_122 dX5_writes_93 rfl
theorem e122_94 (hcs : Nat.ble (j_cs ST) 8 = true) : Rn X (d + 1) 122 94 LS (.int z :: .int y :: .int x :: .ref a :: ST) M h = j_rc (M a) 5 (q_k X (Rn X d 109 0 [some (.ref a), some (.int x), some (.int y), some (.int z)] [] M (j_h0 h)) h (d + 1) 122 97 LS ST) := s_callV mt_122 dX5_writes_94 cl_5_71 mt_109 rfl rfl (Nat.le_add_left _ _) rfl rfl rfl rfl hcs
theorem e122_97 : Rn X d 122 97 (some (.ref a) :: t) ST M h = Rn X d 122 98 (some (.ref a) :: t) (.ref a :: ST) M h := r_aload_n mt_122 dX5_writes_97 rfl
theorem e122_98 : Rn X d 122 98 (some (.ref a) :: t) ST M h = Rn X d 122 99 (some (.ref a) :: t) (.ref a :: ST) M h := r_aload_n mt_122 dX5_writes_98 rfl
theorem e122_99 : Rn X d 122 99 LS (.ref a :: ST) M h = q_g X (M a) 5 8 d 122 102 LS ST M h := s_get mt_122 dX5_writes_99 f_5_51
theorem e122_102 : Rn X d 122 102 LS ST M h = Rn X d 122 103 LS (.int (zN 2) :: ST) M h := r_iconst mt_122 dX5_writes_102 c_ic2
theorem e122_103 : Rn X d 122 103 (l0 :: some (.int x) :: t) ST M h = Rn X d 122 104 (l0 :: some (.int x) :: t) (.int x :: ST) M h := r_iload_n mt_122 dX5_writes_103 rfl
theorem e122_104 : Rn X d 122 104 LS ST M h = Rn X d 122 105 LS (.int (zN 2) :: ST) M h := r_iconst mt_122 dX5_writes_104 c_ic2
theorem e122_105 : Rn X d 122 105 LS (.int y :: .int x :: ST) M h = q_le X y x d 122 112 108 LS ST M h := s_icge mt_122 dX5_writes_105 rfl
theorem e122_108 : Rn X d 122 108 LS ST M h = Rn X d 122 109 LS (.int (zN 0) :: ST) M h := r_iconst mt_122 dX5_writes_108 c_ic0
theorem e122_109 : Rn X d 122 109 LS ST M h = Rn X d 122 113 LS ST M h := r_goto mt_122 dX5_writes_109 rfl
theorem e122_112 : Rn X d 122 112 (l0 :: l1 :: l2 :: some (.int x) :: t) ST M h = Rn X d 122 113 (l0 :: l1 :: l2 :: some (.int x) :: t) (.int x :: ST) M h := r_iload_n mt_122 dX5_writes_112 rfl
theorem e122_113 (hcs : Nat.ble (j_cs ST) 8 = true) : Rn X (d + 1) 122 113 LS (.int z :: .int y :: .int x :: .ref a :: ST) M h = j_rc (M a) 5 (q_k X (Rn X d 109 0 [some (.ref a), some (.int x), some (.int y), some (.int z)] [] M (j_h0 h)) h (d + 1) 122 116 LS ST) := s_callV mt_122 dX5_writes_113 cl_5_71 mt_109 rfl rfl (Nat.le_add_left _ _) rfl rfl rfl rfl hcs
theorem e122_116 : Rn X d 122 116 (some (.ref a) :: t) ST M h = Rn X d 122 117 (some (.ref a) :: t) (.ref a :: ST) M h := r_aload_n mt_122 dX5_writes_116 rfl
theorem e122_117 : Rn X d 122 117 (some (.ref a) :: t) ST M h = Rn X d 122 118 (some (.ref a) :: t) (.ref a :: ST) M h := r_aload_n mt_122 dX5_writes_117 rfl
theorem e122_118 : Rn X d 122 118 LS (.ref a :: ST) M h = q_g X (M a) 5 8 d 122 121 LS ST M h := s_get mt_122 dX5_writes_118 f_5_51
theorem e122_121 : Rn X d 122 121 LS ST M h = Rn X d 122 122 LS (.int (zN 3) :: ST) M h := r_iconst mt_122 dX5_writes_121 c_ic3
theorem e122_122 : Rn X d 122 122 (l0 :: l1 :: l2 :: l3 :: some (.int x) :: t) ST M h = Rn X d 122 124 (l0 :: l1 :: l2 :: l3 :: some (.int x) :: t) (.int x :: ST) M h := r_iload mt_122 dX5_writes_122 rfl
theorem e122_124 (hcs : Nat.ble (j_cs ST) 8 = true) : Rn X (d + 1) 122 124 LS (.int z :: .int y :: .int x :: .ref a :: ST) M h = j_rc (M a) 5 (q_k X (Rn X d 109 0 [some (.ref a), some (.int x), some (.int y), some (.int z)] [] M (j_h0 h)) h (d + 1) 122 127 LS ST) := s_callV mt_122 dX5_writes_124 cl_5_71 mt_109 rfl rfl (Nat.le_add_left _ _) rfl rfl rfl rfl hcs
theorem e122_127 : Rn X d 122 127 (some (.ref a) :: t) ST M h = Rn X d 122 128 (some (.ref a) :: t) (.ref a :: ST) M h := r_aload_n mt_122 dX5_writes_127 rfl
theorem e122_128 : Rn X d 122 128 (some (.ref a) :: t) ST M h = Rn X d 122 129 (some (.ref a) :: t) (.ref a :: ST) M h := r_aload_n mt_122 dX5_writes_128 rfl
theorem e122_129 : Rn X d 122 129 LS (.ref a :: ST) M h = q_g X (M a) 5 8 d 122 132 LS ST M h := s_get mt_122 dX5_writes_129 f_5_51
theorem e122_132 : Rn X d 122 132 LS ST M h = Rn X d 122 133 LS (.int (zN 4) :: ST) M h := r_iconst mt_122 dX5_writes_132 c_ic4
theorem e122_133 : Rn X d 122 133 LS ST M h = Rn X d 122 134 LS (.int (zN 0) :: ST) M h := r_iconst mt_122 dX5_writes_133 c_ic0
theorem e122_134 (hcs : Nat.ble (j_cs ST) 8 = true) : Rn X (d + 1) 122 134 LS (.int z :: .int y :: .int x :: .ref a :: ST) M h = j_rc (M a) 5 (q_k X (Rn X d 109 0 [some (.ref a), some (.int x), some (.int y), some (.int z)] [] M (j_h0 h)) h (d + 1) 122 137 LS ST) := s_callV mt_122 dX5_writes_134 cl_5_71 mt_109 rfl rfl (Nat.le_add_left _ _) rfl rfl rfl rfl hcs
theorem e122_137 : Rn X d 122 137 (some (.ref a) :: t) ST M h = Rn X d 122 138 (some (.ref a) :: t) (.ref a :: ST) M h := r_aload_n mt_122 dX5_writes_137 rfl
theorem e122_138 : Rn X d 122 138 LS (.ref a :: ST) M h = q_g X (M a) 5 0 d 122 141 LS ST M h := s_get mt_122 dX5_writes_138 f_5_7
theorem e122_141 : Rn X d 122 141 LS ST M h = Rn X d 122 142 LS (.int (zN 2) :: ST) M h := r_iconst mt_122 dX5_writes_141 c_ic2
theorem e122_142 : Rn X d 122 142 LS (.int x :: .ref a :: ST) M h = Rn X d 122 143 LS (.int x :: .ref a :: .int x :: .ref a :: ST) M h := r_dup2 mt_122 dX5_writes_142 rfl rfl
theorem e122_143 : Rn X d 122 143 LS (.int x :: .ref a :: ST) M h = q_ld X (M a) a x d 122 144 LS ST M h := s_iald mt_122 dX5_writes_143
theorem e122_144 : Rn X d 122 144 LS ST M h = Rn X d 122 145 LS (.int (zN 1) :: ST) M h := r_iconst mt_122 dX5_writes_144 c_ic1
theorem e122_145 : Rn X d 122 145 LS (.int y :: .int x :: ST) M h = Rn X d 122 146 LS (.int (x + y) :: ST) M h := r_iadd mt_122 dX5_writes_145
theorem e122_146 : Rn X d 122 146 LS (.int y :: .int x :: .ref a :: ST) M h = q_st X (M a) a x y d 122 147 LS ST M h := s_iast mt_122 dX5_writes_146
theorem e122_147 : Rn X d 122 147 LS ST M h = Rn X d 122 148 LS (.int (zN 0) :: ST) M h := r_iconst mt_122 dX5_writes_147 c_ic0
theorem e122_148 : Rn X d 122 148 LS ([.int x]) M h = some (.inl (some (.int x)), M, h) := r_iret mt_122 dX5_writes_148 rfl
theorem e123_0 : Rn X d 123 0 (l0 :: some (.int x) :: t) ST M h = Rn X d 123 1 (l0 :: some (.int x) :: t) (.int x :: ST) M h := r_iload_n mt_123 dX5_replays_0 rfl
theorem e123_1 (hcs : Nat.ble (j_cs ST) 8 = true) : Rn X (d + 1) 123 1 LS (.int x :: ST) M h = q_k X (Rn X d 110 0 [some (.int x)] [] M (j_h0 h)) h (d + 1) 123 4 LS ST := s_callS (Or.inl rfl) mt_123 dX5_replays_1 cl_5_75 mt_110 rfl (Nat.le_add_left _ _) rfl rfl rfl rfl hcs
theorem e123_4 : Rn X d 123 4 LS (.int x :: ST) M h = q_eq X x (zN 0) d 123 7 9 LS ST M h := s_ifne mt_123 dX5_replays_4 rfl
theorem e123_7 : Rn X d 123 7 LS ST M h = Rn X d 123 8 LS (.int (zN 1) :: ST) M h := r_iconst mt_123 dX5_replays_7 c_ic1
theorem e123_8 : Rn X d 123 8 LS ([.int x]) M h = some (.inl (some (.int x)), M, h) := r_iret mt_123 dX5_replays_8 rfl
theorem e123_9 : Rn X d 123 9 (l0 :: l1 :: some (.int x) :: t) ST M h = Rn X d 123 10 (l0 :: l1 :: some (.int x) :: t) (.int x :: ST) M h := r_iload_n mt_123 dX5_replays_9 rfl
theorem e123_10 : Rn X d 123 10 LS ST M h = Rn X d 123 11 LS (.int (zN 1) :: ST) M h := r_iconst mt_123 dX5_replays_10 c_ic1
theorem e123_11 : Rn X d 123 11 LS ST M h = Rn X d 123 13 LS (.int (zN 99) :: ST) M h := r_bipush mt_123 dX5_replays_11 c_bi99
theorem e123_13 (hcs : Nat.ble (j_cs ST) 8 = true) : Rn X (d + 1) 123 13 LS (.int z :: .int y :: .int x :: ST) M h = q_k X (Rn X d 104 0 [some (.int x), some (.int y), some (.int z)] [] M (j_h0 h)) h (d + 1) 123 16 LS ST := s_callS (Or.inl rfl) mt_123 dX5_replays_13 cl_5_33 mt_104 rfl (Nat.le_add_left _ _) rfl rfl rfl rfl hcs
theorem e123_16 : Rn X d 123 16 LS (.int x :: ST) M h = q_eq X x (zN 0) d 123 19 21 LS ST M h := s_ifne mt_123 dX5_replays_16 rfl
theorem e123_19 : Rn X d 123 19 LS ST M h = Rn X d 123 20 LS (.int (zN 2) :: ST) M h := r_iconst mt_123 dX5_replays_19 c_ic2
theorem e123_20 : Rn X d 123 20 LS ([.int x]) M h = some (.inl (some (.int x)), M, h) := r_iret mt_123 dX5_replays_20 rfl
theorem e123_21 : Rn X d 123 21 (some (.ref a) :: t) ST M h = Rn X d 123 22 (some (.ref a) :: t) (.ref a :: ST) M h := r_aload_n mt_123 dX5_replays_21 rfl
theorem e123_22 : Rn X d 123 22 (l0 :: some (.int x) :: t) ST M h = Rn X d 123 23 (l0 :: some (.int x) :: t) (.int x :: ST) M h := r_iload_n mt_123 dX5_replays_22 rfl
theorem e123_23 (hcs : Nat.ble (j_cs ST) 8 = true) : Rn X (d + 1) 123 23 LS (.int x :: .ref a :: ST) M h = j_rc (M a) 5 (q_k X (Rn X d 120 0 [some (.ref a), some (.int x)] [] M (j_h0 h)) h (d + 1) 123 26 LS ST) := s_callV mt_123 dX5_replays_23 cl_5_78 mt_120 rfl rfl (Nat.le_add_left _ _) rfl rfl rfl rfl hcs
theorem e123_26 (ho : j_one l2 = true) : Rn X d 123 26 (l0 :: l1 :: l2 :: l3 :: t) (.int x :: ST) M h = Rn X d 123 27 (l0 :: l1 :: l2 :: some (.int x) :: t) ST M h := r_istore_n mt_123 dX5_replays_26 (by show 3 < _; simp only [List.length_cons]; omega) ho rfl
theorem e123_27 : Rn X d 123 27 (some (.ref a) :: t) ST M h = Rn X d 123 28 (some (.ref a) :: t) (.ref a :: ST) M h := r_aload_n mt_123 dX5_replays_27 rfl
theorem e123_28 : Rn X d 123 28 (l0 :: l1 :: l2 :: some (.int x) :: t) ST M h = Rn X d 123 29 (l0 :: l1 :: l2 :: some (.int x) :: t) (.int x :: ST) M h := r_iload_n mt_123 dX5_replays_28 rfl
theorem e123_29 : Rn X d 123 29 (l0 :: l1 :: some (.int x) :: t) ST M h = Rn X d 123 30 (l0 :: l1 :: some (.int x) :: t) (.int x :: ST) M h := r_iload_n mt_123 dX5_replays_29 rfl
theorem e123_30 : Rn X d 123 30 LS (.int y :: .int x :: ST) M h = q_le X y x d 123 37 33 LS ST M h := s_icge mt_123 dX5_replays_30 rfl
theorem e123_33 : Rn X d 123 33 (l0 :: l1 :: l2 :: some (.int x) :: t) ST M h = Rn X d 123 34 (l0 :: l1 :: l2 :: some (.int x) :: t) (.int x :: ST) M h := r_iload_n mt_123 dX5_replays_33 rfl
theorem e123_34 : Rn X d 123 34 LS ST M h = Rn X d 123 38 LS ST M h := r_goto mt_123 dX5_replays_34 rfl
theorem e123_37 : Rn X d 123 37 (l0 :: l1 :: some (.int x) :: t) ST M h = Rn X d 123 38 (l0 :: l1 :: some (.int x) :: t) (.int x :: ST) M h := r_iload_n mt_123 dX5_replays_37 rfl
theorem e123_38 : Rn X d 123 38 LS (.int x :: .ref a :: ST) M h = q_p X (M a) a 5 8 (.int x) d 123 41 LS ST M h := s_putN mt_123 dX5_replays_38 f_5_51 rfl rfl rfl
theorem e123_41 : Rn X d 123 41 LS ST M h = Rn X d 123 42 LS (.int (zN 0) :: ST) M h := r_iconst mt_123 dX5_replays_41 c_ic0
theorem e123_42 (ho : j_one l3 = true) : Rn X d 123 42 (l0 :: l1 :: l2 :: l3 :: l4 :: t) (.int x :: ST) M h = Rn X d 123 44 (l0 :: l1 :: l2 :: l3 :: some (.int x) :: t) ST M h := r_istore mt_123 dX5_replays_42 (by show 4 < _; simp only [List.length_cons]; omega) ho rfl
theorem e123_44 : Rn X d 123 44 (l0 :: l1 :: l2 :: l3 :: some (.int x) :: t) ST M h = Rn X d 123 46 (l0 :: l1 :: l2 :: l3 :: some (.int x) :: t) (.int x :: ST) M h := r_iload mt_123 dX5_replays_44 rfl
theorem e123_46 : Rn X d 123 46 (some (.ref a) :: t) ST M h = Rn X d 123 47 (some (.ref a) :: t) (.ref a :: ST) M h := r_aload_n mt_123 dX5_replays_46 rfl
theorem e123_47 : Rn X d 123 47 LS (.ref a :: ST) M h = q_g X (M a) 5 8 d 123 50 LS ST M h := s_get mt_123 dX5_replays_47 f_5_51
theorem e123_50 : Rn X d 123 50 LS (.int y :: .int x :: ST) M h = q_le X y x d 123 97 53 LS ST M h := s_icge mt_123 dX5_replays_50 rfl
theorem e123_53 : Rn X d 123 53 (some (.ref a) :: t) ST M h = Rn X d 123 54 (some (.ref a) :: t) (.ref a :: ST) M h := r_aload_n mt_123 dX5_replays_53 rfl
theorem e123_54 : Rn X d 123 54 (some (.ref a) :: t) ST M h = Rn X d 123 55 (some (.ref a) :: t) (.ref a :: ST) M h := r_aload_n mt_123 dX5_replays_54 rfl
theorem e123_55 : Rn X d 123 55 LS (.ref a :: ST) M h = q_g X (M a) 5 0 d 123 58 LS ST M h := s_get mt_123 dX5_replays_55 f_5_7
theorem e123_58 : Rn X d 123 58 LS ST M h = Rn X d 123 61 LS (.int (zN 164) :: ST) M h := r_sipush mt_123 dX5_replays_58 c_si164
theorem e123_61 : Rn X d 123 61 LS ST M h = Rn X d 123 63 LS (.int (zN 21) :: ST) M h := r_bipush mt_123 dX5_replays_61 c_bi21
theorem e123_63 : Rn X d 123 63 (l0 :: some (.int x) :: t) ST M h = Rn X d 123 64 (l0 :: some (.int x) :: t) (.int x :: ST) M h := r_iload_n mt_123 dX5_replays_63 rfl
theorem e123_64 : Rn X d 123 64 LS (.int y :: .int x :: ST) M h = Rn X d 123 65 LS (.int (x * y) :: ST) M h := r_imul mt_123 dX5_replays_64
theorem e123_65 : Rn X d 123 65 LS (.int y :: .int x :: ST) M h = Rn X d 123 66 LS (.int (x + y) :: ST) M h := r_iadd mt_123 dX5_replays_65
theorem e123_66 : Rn X d 123 66 LS ST M h = Rn X d 123 67 LS (.int (zN 5) :: ST) M h := r_iconst mt_123 dX5_replays_66 c_ic5
theorem e123_67 : Rn X d 123 67 LS (.int y :: .int x :: ST) M h = Rn X d 123 68 LS (.int (x + y) :: ST) M h := r_iadd mt_123 dX5_replays_67
theorem e123_68 : Rn X d 123 68 (some (.ref a) :: t) ST M h = Rn X d 123 69 (some (.ref a) :: t) (.ref a :: ST) M h := r_aload_n mt_123 dX5_replays_68 rfl
theorem e123_69 : Rn X d 123 69 (l0 :: some (.int x) :: t) ST M h = Rn X d 123 70 (l0 :: some (.int x) :: t) (.int x :: ST) M h := r_iload_n mt_123 dX5_replays_69 rfl
theorem e123_70 : Rn X d 123 70 LS ST M h = Rn X d 123 71 LS (.int (zN 0) :: ST) M h := r_iconst mt_123 dX5_replays_70 c_ic0
theorem e123_71 (hcs : Nat.ble (j_cs ST) 8 = true) : Rn X (d + 1) 123 71 LS (.int y :: .int x :: .ref a :: ST) M h = j_rc (M a) 5 (q_k X (Rn X d 106 0 [some (.ref a), some (.int x), some (.int y)] [] M (j_h0 h)) h (d + 1) 123 74 LS ST) := s_callV mt_123 dX5_replays_71 cl_5_57 mt_106 rfl rfl (Nat.le_add_left _ _) rfl rfl rfl rfl hcs
theorem e123_74 (hcs : Nat.ble (j_cs ST) 8 = true) : Rn X (d + 1) 123 74 LS (.int y :: .int x :: .ref b :: .ref a :: ST) M h = j_rc (M a) 5 (q_k X (Rn X d 118 0 [some (.ref a), some (.ref b), some (.int x), some (.int y), none, none, none, none, none] [] M (j_h0 h)) h (d + 1) 123 77 LS ST) := s_callV mt_123 dX5_replays_74 cl_5_81 mt_118 rfl rfl (Nat.le_add_left _ _) rfl rfl rfl rfl hcs
theorem e123_77 : Rn X d 123 77 (some (.ref a) :: t) ST M h = Rn X d 123 78 (some (.ref a) :: t) (.ref a :: ST) M h := r_aload_n mt_123 dX5_replays_77 rfl
theorem e123_78 : Rn X d 123 78 (l0 :: some (.int x) :: t) ST M h = Rn X d 123 79 (l0 :: some (.int x) :: t) (.int x :: ST) M h := r_iload_n mt_123 dX5_replays_78 rfl
theorem e123_79 : Rn X d 123 79 LS ST M h = Rn X d 123 80 LS (.int (zN 0) :: ST) M h := r_iconst mt_123 dX5_replays_79 c_ic0
theorem e123_80 : Rn X d 123 80 (some (.ref a) :: t) ST M h = Rn X d 123 81 (some (.ref a) :: t) (.ref a :: ST) M h := r_aload_n mt_123 dX5_replays_80 rfl
theorem e123_81 : Rn X d 123 81 (l0 :: some (.int x) :: t) ST M h = Rn X d 123 82 (l0 :: some (.int x) :: t) (.int x :: ST) M h := r_iload_n mt_123 dX5_replays_81 rfl
theorem e123_82 : Rn X d 123 82 LS ST M h = Rn X d 123 83 LS (.int (zN 0) :: ST) M h := r_iconst mt_123 dX5_replays_82 c_ic0
theorem e123_83 (hcs : Nat.ble (j_cs ST) 8 = true) : Rn X (d + 1) 123 83 LS (.int y :: .int x :: .ref a :: ST) M h = j_rc (M a) 5 (q_k X (Rn X d 106 0 [some (.ref a), some (.int x), some (.int y)] [] M (j_h0 h)) h (d + 1) 123 86 LS ST) := s_callV mt_123 dX5_replays_83 cl_5_57 mt_106 rfl rfl (Nat.le_add_left _ _) rfl rfl rfl rfl hcs
theorem e123_86 : Rn X d 123 86 LS ST M h = Rn X d 123 87 LS (.int (zN 1) :: ST) M h := r_iconst mt_123 dX5_replays_86 c_ic1
theorem e123_87 : Rn X d 123 87 LS (.int y :: .int x :: ST) M h = Rn X d 123 88 LS (.int (x + y) :: ST) M h := r_iadd mt_123 dX5_replays_87
theorem e123_88 (hcs : Nat.ble (j_cs ST) 8 = true) : Rn X (d + 1) 123 88 LS (.int z :: .int y :: .int x :: .ref a :: ST) M h = j_rc (M a) 5 (q_k X (Rn X d 107 0 [some (.ref a), some (.int x), some (.int y), some (.int z)] [] M (j_h0 h)) h (d + 1) 123 91 LS ST) := s_callV mt_123 dX5_replays_88 cl_5_85 mt_107 rfl rfl (Nat.le_add_left _ _) rfl rfl rfl rfl hcs
theorem e123_91 (ho : j_one l3 = true) : Rn X d 123 91 (l0 :: l1 :: l2 :: l3 :: some (.int x) :: t) ST M h = Rn X d 123 94 (l0 :: l1 :: l2 :: l3 :: some (.int (x + (zN 1))) :: t) ST M h := r_iinc mt_123 dX5_replays_91 rfl (by simp only [List.length_cons]; omega) ho c_ic1 rfl
theorem e123_94 : Rn X d 123 94 LS ST M h = Rn X d 123 44 LS ST M h := r_goto mt_123 dX5_replays_94 rfl
theorem e123_97 : Rn X d 123 97 (some (.ref a) :: t) ST M h = Rn X d 123 98 (some (.ref a) :: t) (.ref a :: ST) M h := r_aload_n mt_123 dX5_replays_97 rfl
theorem e123_98 : Rn X d 123 98 (l0 :: some (.int x) :: t) ST M h = Rn X d 123 99 (l0 :: some (.int x) :: t) (.int x :: ST) M h := r_iload_n mt_123 dX5_replays_98 rfl
theorem e123_99 : Rn X d 123 99 LS ST M h = Rn X d 123 100 LS (.int (zN 2) :: ST) M h := r_iconst mt_123 dX5_replays_99 c_ic2
theorem e123_100 : Rn X d 123 100 (some (.ref a) :: t) ST M h = Rn X d 123 101 (some (.ref a) :: t) (.ref a :: ST) M h := r_aload_n mt_123 dX5_replays_100 rfl
theorem e123_101 : Rn X d 123 101 (l0 :: some (.int x) :: t) ST M h = Rn X d 123 102 (l0 :: some (.int x) :: t) (.int x :: ST) M h := r_iload_n mt_123 dX5_replays_101 rfl
theorem e123_102 : Rn X d 123 102 LS ST M h = Rn X d 123 103 LS (.int (zN 2) :: ST) M h := r_iconst mt_123 dX5_replays_102 c_ic2
theorem e123_103 (hcs : Nat.ble (j_cs ST) 8 = true) : Rn X (d + 1) 123 103 LS (.int y :: .int x :: .ref a :: ST) M h = j_rc (M a) 5 (q_k X (Rn X d 106 0 [some (.ref a), some (.int x), some (.int y)] [] M (j_h0 h)) h (d + 1) 123 106 LS ST) := s_callV mt_123 dX5_replays_103 cl_5_57 mt_106 rfl rfl (Nat.le_add_left _ _) rfl rfl rfl rfl hcs
theorem e123_106 : Rn X d 123 106 (some (.ref a) :: t) ST M h = Rn X d 123 107 (some (.ref a) :: t) (.ref a :: ST) M h := r_aload_n mt_123 dX5_replays_106 rfl
theorem e123_107 : Rn X d 123 107 LS (.ref a :: ST) M h = q_g X (M a) 5 8 d 123 110 LS ST M h := s_get mt_123 dX5_replays_107 f_5_51
theorem e123_110 : Rn X d 123 110 LS (.int y :: .int x :: ST) M h = Rn X d 123 111 LS (.int (x + y) :: ST) M h := r_iadd mt_123 dX5_replays_110
theorem e123_111 (hcs : Nat.ble (j_cs ST) 8 = true) : Rn X (d + 1) 123 111 LS (.int z :: .int y :: .int x :: .ref a :: ST) M h = j_rc (M a) 5 (q_k X (Rn X d 107 0 [some (.ref a), some (.int x), some (.int y), some (.int z)] [] M (j_h0 h)) h (d + 1) 123 114 LS ST) := s_callV mt_123 dX5_replays_111 cl_5_85 mt_107 rfl rfl (Nat.le_add_left _ _) rfl rfl rfl rfl hcs
theorem e123_114 : Rn X d 123 114 LS ST M h = Rn X d 123 115 LS (.int (zN 0) :: ST) M h := r_iconst mt_123 dX5_replays_114 c_ic0
theorem e123_115 : Rn X d 123 115 LS ([.int x]) M h = some (.inl (some (.int x)), M, h) := r_iret mt_123 dX5_replays_115 rfl
theorem e124_0 : Rn X d 124 0 (l0 :: some (.int x) :: t) ST M h = Rn X d 124 1 (l0 :: some (.int x) :: t) (.int x :: ST) M h := r_iload_n mt_124 dX5_snaps_0 rfl
theorem e124_1 (hcs : Nat.ble (j_cs ST) 8 = true) : Rn X (d + 1) 124 1 LS (.int x :: ST) M h = q_k X (Rn X d 110 0 [some (.int x)] [] M (j_h0 h)) h (d + 1) 124 4 LS ST := s_callS (Or.inl rfl) mt_124 dX5_snaps_1 cl_5_75 mt_110 rfl (Nat.le_add_left _ _) rfl rfl rfl rfl hcs
theorem e124_4 : Rn X d 124 4 LS (.int x :: ST) M h = q_eq X x (zN 0) d 124 7 9 LS ST M h := s_ifne mt_124 dX5_snaps_4 rfl
theorem e124_7 : Rn X d 124 7 LS ST M h = Rn X d 124 8 LS (.int (zN 1) :: ST) M h := r_iconst mt_124 dX5_snaps_7 c_ic1
theorem e124_8 : Rn X d 124 8 LS ([.int x]) M h = some (.inl (some (.int x)), M, h) := r_iret mt_124 dX5_snaps_8 rfl
theorem e124_9 : Rn X d 124 9 (some (.ref a) :: t) ST M h = Rn X d 124 10 (some (.ref a) :: t) (.ref a :: ST) M h := r_aload_n mt_124 dX5_snaps_9 rfl
theorem e124_10 : Rn X d 124 10 (l0 :: some (.int x) :: t) ST M h = Rn X d 124 11 (l0 :: some (.int x) :: t) (.int x :: ST) M h := r_iload_n mt_124 dX5_snaps_10 rfl
theorem e124_11 : Rn X d 124 11 LS ST M h = Rn X d 124 12 LS (.int (zN 1) :: ST) M h := r_iconst mt_124 dX5_snaps_11 c_ic1
theorem e124_12 (hcs : Nat.ble (j_cs ST) 8 = true) : Rn X (d + 1) 124 12 LS (.int y :: .int x :: .ref a :: ST) M h = j_rc (M a) 5 (q_k X (Rn X d 106 0 [some (.ref a), some (.int x), some (.int y)] [] M (j_h0 h)) h (d + 1) 124 15 LS ST) := s_callV mt_124 dX5_snaps_12 cl_5_57 mt_106 rfl rfl (Nat.le_add_left _ _) rfl rfl rfl rfl hcs
theorem e124_15 : Rn X d 124 15 LS (.int x :: ST) M h = q_eq X x (zN 0) d 124 18 20 LS ST M h := s_ifne mt_124 dX5_snaps_15 rfl
theorem e124_18 : Rn X d 124 18 LS ST M h = Rn X d 124 19 LS (.int (zN 2) :: ST) M h := r_iconst mt_124 dX5_snaps_18 c_ic2
theorem e124_19 : Rn X d 124 19 LS ([.int x]) M h = some (.inl (some (.int x)), M, h) := r_iret mt_124 dX5_snaps_19 rfl
theorem e124_20 : Rn X d 124 20 (some (.ref a) :: t) ST M h = Rn X d 124 21 (some (.ref a) :: t) (.ref a :: ST) M h := r_aload_n mt_124 dX5_snaps_20 rfl
theorem e124_21 : Rn X d 124 21 (l0 :: some (.int x) :: t) ST M h = Rn X d 124 22 (l0 :: some (.int x) :: t) (.int x :: ST) M h := r_iload_n mt_124 dX5_snaps_21 rfl
theorem e124_22 : Rn X d 124 22 LS ST M h = Rn X d 124 23 LS (.int (zN 4) :: ST) M h := r_iconst mt_124 dX5_snaps_22 c_ic4
theorem e124_23 : Rn X d 124 23 (some (.ref a) :: t) ST M h = Rn X d 124 24 (some (.ref a) :: t) (.ref a :: ST) M h := r_aload_n mt_124 dX5_snaps_23 rfl
theorem e124_24 : Rn X d 124 24 (l0 :: some (.int x) :: t) ST M h = Rn X d 124 25 (l0 :: some (.int x) :: t) (.int x :: ST) M h := r_iload_n mt_124 dX5_snaps_24 rfl
theorem e124_25 : Rn X d 124 25 LS ST M h = Rn X d 124 26 LS (.int (zN 0) :: ST) M h := r_iconst mt_124 dX5_snaps_25 c_ic0
theorem e124_26 (hcs : Nat.ble (j_cs ST) 8 = true) : Rn X (d + 1) 124 26 LS (.int y :: .int x :: .ref a :: ST) M h = j_rc (M a) 5 (q_k X (Rn X d 106 0 [some (.ref a), some (.int x), some (.int y)] [] M (j_h0 h)) h (d + 1) 124 29 LS ST) := s_callV mt_124 dX5_snaps_26 cl_5_57 mt_106 rfl rfl (Nat.le_add_left _ _) rfl rfl rfl rfl hcs
theorem e124_29 (hcs : Nat.ble (j_cs ST) 8 = true) : Rn X (d + 1) 124 29 LS (.int z :: .int y :: .int x :: .ref a :: ST) M h = j_rc (M a) 5 (q_k X (Rn X d 107 0 [some (.ref a), some (.int x), some (.int y), some (.int z)] [] M (j_h0 h)) h (d + 1) 124 32 LS ST) := s_callV mt_124 dX5_snaps_29 cl_5_85 mt_107 rfl rfl (Nat.le_add_left _ _) rfl rfl rfl rfl hcs
theorem e124_32 : Rn X d 124 32 LS ST M h = Rn X d 124 33 LS (.int (zN 0) :: ST) M h := r_iconst mt_124 dX5_snaps_32 c_ic0
theorem e124_33 (ho : j_one l1 = true) : Rn X d 124 33 (l0 :: l1 :: l2 :: t) (.int x :: ST) M h = Rn X d 124 34 (l0 :: l1 :: some (.int x) :: t) ST M h := r_istore_n mt_124 dX5_snaps_33 (by show 2 < _; simp only [List.length_cons]; omega) ho rfl
theorem e124_34 : Rn X d 124 34 (l0 :: l1 :: some (.int x) :: t) ST M h = Rn X d 124 35 (l0 :: l1 :: some (.int x) :: t) (.int x :: ST) M h := r_iload_n mt_124 dX5_snaps_34 rfl
theorem e124_35 : Rn X d 124 35 LS ST M h = Rn X d 124 37 LS (.int (zN 8) :: ST) M h := r_bipush mt_124 dX5_snaps_35 c_bi8
theorem e124_37 : Rn X d 124 37 LS (.int y :: .int x :: ST) M h = q_le X y x d 124 63 40 LS ST M h := s_icge mt_124 dX5_snaps_37 rfl
theorem e124_40 : Rn X d 124 40 (some (.ref a) :: t) ST M h = Rn X d 124 41 (some (.ref a) :: t) (.ref a :: ST) M h := r_aload_n mt_124 dX5_snaps_40 rfl
theorem e124_41 : Rn X d 124 41 (l0 :: some (.int x) :: t) ST M h = Rn X d 124 42 (l0 :: some (.int x) :: t) (.int x :: ST) M h := r_iload_n mt_124 dX5_snaps_41 rfl
theorem e124_42 : Rn X d 124 42 LS ST M h = Rn X d 124 44 LS (.int (zN 13) :: ST) M h := r_bipush mt_124 dX5_snaps_42 c_bi13
theorem e124_44 : Rn X d 124 44 (l0 :: l1 :: some (.int x) :: t) ST M h = Rn X d 124 45 (l0 :: l1 :: some (.int x) :: t) (.int x :: ST) M h := r_iload_n mt_124 dX5_snaps_44 rfl
theorem e124_45 : Rn X d 124 45 LS (.int y :: .int x :: ST) M h = Rn X d 124 46 LS (.int (x + y) :: ST) M h := r_iadd mt_124 dX5_snaps_45
theorem e124_46 : Rn X d 124 46 (some (.ref a) :: t) ST M h = Rn X d 124 47 (some (.ref a) :: t) (.ref a :: ST) M h := r_aload_n mt_124 dX5_snaps_46 rfl
theorem e124_47 : Rn X d 124 47 (l0 :: some (.int x) :: t) ST M h = Rn X d 124 48 (l0 :: some (.int x) :: t) (.int x :: ST) M h := r_iload_n mt_124 dX5_snaps_47 rfl
theorem e124_48 : Rn X d 124 48 LS ST M h = Rn X d 124 49 LS (.int (zN 5) :: ST) M h := r_iconst mt_124 dX5_snaps_48 c_ic5
theorem e124_49 : Rn X d 124 49 (l0 :: l1 :: some (.int x) :: t) ST M h = Rn X d 124 50 (l0 :: l1 :: some (.int x) :: t) (.int x :: ST) M h := r_iload_n mt_124 dX5_snaps_49 rfl
theorem e124_50 : Rn X d 124 50 LS (.int y :: .int x :: ST) M h = Rn X d 124 51 LS (.int (x + y) :: ST) M h := r_iadd mt_124 dX5_snaps_50
theorem e124_51 (hcs : Nat.ble (j_cs ST) 8 = true) : Rn X (d + 1) 124 51 LS (.int y :: .int x :: .ref a :: ST) M h = j_rc (M a) 5 (q_k X (Rn X d 106 0 [some (.ref a), some (.int x), some (.int y)] [] M (j_h0 h)) h (d + 1) 124 54 LS ST) := s_callV mt_124 dX5_snaps_51 cl_5_57 mt_106 rfl rfl (Nat.le_add_left _ _) rfl rfl rfl rfl hcs
theorem e124_54 (hcs : Nat.ble (j_cs ST) 8 = true) : Rn X (d + 1) 124 54 LS (.int z :: .int y :: .int x :: .ref a :: ST) M h = j_rc (M a) 5 (q_k X (Rn X d 107 0 [some (.ref a), some (.int x), some (.int y), some (.int z)] [] M (j_h0 h)) h (d + 1) 124 57 LS ST) := s_callV mt_124 dX5_snaps_54 cl_5_85 mt_107 rfl rfl (Nat.le_add_left _ _) rfl rfl rfl rfl hcs
theorem e124_57 (ho : j_one l1 = true) : Rn X d 124 57 (l0 :: l1 :: some (.int x) :: t) ST M h = Rn X d 124 60 (l0 :: l1 :: some (.int (x + (zN 1))) :: t) ST M h := r_iinc mt_124 dX5_snaps_57 rfl (by simp only [List.length_cons]; omega) ho c_ic1 rfl
theorem e124_60 : Rn X d 124 60 LS ST M h = Rn X d 124 34 LS ST M h := r_goto mt_124 dX5_snaps_60 rfl
theorem e124_63 : Rn X d 124 63 (some (.ref a) :: t) ST M h = Rn X d 124 64 (some (.ref a) :: t) (.ref a :: ST) M h := r_aload_n mt_124 dX5_snaps_63 rfl
theorem e124_64 : Rn X d 124 64 (some (.ref a) :: t) ST M h = Rn X d 124 65 (some (.ref a) :: t) (.ref a :: ST) M h := r_aload_n mt_124 dX5_snaps_64 rfl
theorem e124_65 (hcs : Nat.ble (j_cs ST) 8 = true) : Rn X (d + 1) 124 65 LS (.ref a :: ST) M h = j_rc (M a) 5 (q_k X (Rn X d 121 0 [some (.ref a)] [] M (j_h0 h)) h (d + 1) 124 68 LS ST) := s_callV mt_124 dX5_snaps_65 cl_5_88 mt_121 rfl rfl (Nat.le_add_left _ _) rfl rfl rfl rfl hcs
theorem e124_68 : Rn X d 124 68 (some (.ref a) :: t) ST M h = Rn X d 124 69 (some (.ref a) :: t) (.ref a :: ST) M h := r_aload_n mt_124 dX5_snaps_68 rfl
theorem e124_69 : Rn X d 124 69 LS (.ref a :: ST) M h = q_g X (M a) 5 0 d 124 72 LS ST M h := s_get mt_124 dX5_snaps_69 f_5_7
theorem e124_72 : Rn X d 124 72 LS ST M h = Rn X d 124 73 LS (.int (zN 1) :: ST) M h := r_iconst mt_124 dX5_snaps_72 c_ic1
theorem e124_73 : Rn X d 124 73 LS (.int x :: .ref a :: ST) M h = q_ld X (M a) a x d 124 74 LS ST M h := s_iald mt_124 dX5_snaps_73
theorem e124_74 : Rn X d 124 74 LS (.int y :: .int x :: ST) M h = Rn X d 124 75 LS (.int (x - y) :: ST) M h := r_isub mt_124 dX5_snaps_74
theorem e124_75 : Rn X d 124 75 LS (.int x :: .ref a :: ST) M h = q_p X (M a) a 5 8 (.int x) d 124 78 LS ST M h := s_putN mt_124 dX5_snaps_75 f_5_51 rfl rfl rfl
theorem e124_78 : Rn X d 124 78 (some (.ref a) :: t) ST M h = Rn X d 124 79 (some (.ref a) :: t) (.ref a :: ST) M h := r_aload_n mt_124 dX5_snaps_78 rfl
theorem e124_79 : Rn X d 124 79 LS (.ref a :: ST) M h = q_g X (M a) 5 0 d 124 82 LS ST M h := s_get mt_124 dX5_snaps_79 f_5_7
theorem e124_82 : Rn X d 124 82 LS ST M h = Rn X d 124 83 LS (.int (zN 1) :: ST) M h := r_iconst mt_124 dX5_snaps_82 c_ic1
theorem e124_83 : Rn X d 124 83 (some (.ref a) :: t) ST M h = Rn X d 124 84 (some (.ref a) :: t) (.ref a :: ST) M h := r_aload_n mt_124 dX5_snaps_83 rfl
theorem e124_84 (hcs : Nat.ble (j_cs ST) 8 = true) : Rn X (d + 1) 124 84 LS (.ref a :: ST) M h = j_rc (M a) 5 (q_k X (Rn X d 121 0 [some (.ref a)] [] M (j_h0 h)) h (d + 1) 124 87 LS ST) := s_callV mt_124 dX5_snaps_84 cl_5_88 mt_121 rfl rfl (Nat.le_add_left _ _) rfl rfl rfl rfl hcs
theorem e124_87 : Rn X d 124 87 LS (.int y :: .int x :: .ref a :: ST) M h = q_st X (M a) a x y d 124 88 LS ST M h := s_iast mt_124 dX5_snaps_87
theorem e124_88 : Rn X d 124 88 LS ST M h = Rn X d 124 89 LS (.int (zN 0) :: ST) M h := r_iconst mt_124 dX5_snaps_88 c_ic0
theorem e124_89 : Rn X d 124 89 LS ([.int x]) M h = some (.inl (some (.int x)), M, h) := r_iret mt_124 dX5_snaps_89 rfl
theorem e125_0 : Rn X d 125 0 (l0 :: some (.int x) :: t) ST M h = Rn X d 125 1 (l0 :: some (.int x) :: t) (.int x :: ST) M h := r_iload_n mt_125 dX5_crashes_0 rfl
theorem e125_1 (hcs : Nat.ble (j_cs ST) 8 = true) : Rn X (d + 1) 125 1 LS (.int x :: ST) M h = q_k X (Rn X d 110 0 [some (.int x)] [] M (j_h0 h)) h (d + 1) 125 4 LS ST := s_callS (Or.inl rfl) mt_125 dX5_crashes_1 cl_5_75 mt_110 rfl (Nat.le_add_left _ _) rfl rfl rfl rfl hcs
theorem e125_4 : Rn X d 125 4 LS (.int x :: ST) M h = q_eq X x (zN 0) d 125 7 9 LS ST M h := s_ifne mt_125 dX5_crashes_4 rfl
theorem e125_7 : Rn X d 125 7 LS ST M h = Rn X d 125 8 LS (.int (zN 1) :: ST) M h := r_iconst mt_125 dX5_crashes_7 c_ic1
theorem e125_8 : Rn X d 125 8 LS ([.int x]) M h = some (.inl (some (.int x)), M, h) := r_iret mt_125 dX5_crashes_8 rfl
theorem e125_9 : Rn X d 125 9 (some (.ref a) :: t) ST M h = Rn X d 125 10 (some (.ref a) :: t) (.ref a :: ST) M h := r_aload_n mt_125 dX5_crashes_9 rfl
theorem e125_10 : Rn X d 125 10 (some (.ref a) :: t) ST M h = Rn X d 125 11 (some (.ref a) :: t) (.ref a :: ST) M h := r_aload_n mt_125 dX5_crashes_10 rfl
theorem e125_11 : Rn X d 125 11 (l0 :: some (.int x) :: t) ST M h = Rn X d 125 12 (l0 :: some (.int x) :: t) (.int x :: ST) M h := r_iload_n mt_125 dX5_crashes_11 rfl
theorem e125_12 : Rn X d 125 12 LS ST M h = Rn X d 125 13 LS (.int (zN 0) :: ST) M h := r_iconst mt_125 dX5_crashes_12 c_ic0
theorem e125_13 (hcs : Nat.ble (j_cs ST) 8 = true) : Rn X (d + 1) 125 13 LS (.int y :: .int x :: .ref a :: ST) M h = j_rc (M a) 5 (q_k X (Rn X d 106 0 [some (.ref a), some (.int x), some (.int y)] [] M (j_h0 h)) h (d + 1) 125 16 LS ST) := s_callV mt_125 dX5_crashes_13 cl_5_57 mt_106 rfl rfl (Nat.le_add_left _ _) rfl rfl rfl rfl hcs
theorem e125_16 : Rn X d 125 16 (some (.ref a) :: t) ST M h = Rn X d 125 17 (some (.ref a) :: t) (.ref a :: ST) M h := r_aload_n mt_125 dX5_crashes_16 rfl
theorem e125_17 : Rn X d 125 17 (l0 :: some (.int x) :: t) ST M h = Rn X d 125 18 (l0 :: some (.int x) :: t) (.int x :: ST) M h := r_iload_n mt_125 dX5_crashes_17 rfl
theorem e125_18 : Rn X d 125 18 LS ST M h = Rn X d 125 19 LS (.int (zN 4) :: ST) M h := r_iconst mt_125 dX5_crashes_18 c_ic4
theorem e125_19 (hcs : Nat.ble (j_cs ST) 8 = true) : Rn X (d + 1) 125 19 LS (.int y :: .int x :: .ref a :: ST) M h = j_rc (M a) 5 (q_k X (Rn X d 106 0 [some (.ref a), some (.int x), some (.int y)] [] M (j_h0 h)) h (d + 1) 125 22 LS ST) := s_callV mt_125 dX5_crashes_19 cl_5_57 mt_106 rfl rfl (Nat.le_add_left _ _) rfl rfl rfl rfl hcs
theorem e125_22 : Rn X d 125 22 LS (.int y :: .int x :: ST) M h = Rn X d 125 23 LS (.int (x - y) :: ST) M h := r_isub mt_125 dX5_crashes_22
theorem e125_23 : Rn X d 125 23 LS (.int x :: .ref a :: ST) M h = q_p X (M a) a 5 8 (.int x) d 125 26 LS ST M h := s_putN mt_125 dX5_crashes_23 f_5_51 rfl rfl rfl
theorem e125_26 : Rn X d 125 26 (some (.ref a) :: t) ST M h = Rn X d 125 27 (some (.ref a) :: t) (.ref a :: ST) M h := r_aload_n mt_125 dX5_crashes_26 rfl
theorem e125_27 : Rn X d 125 27 (l0 :: some (.int x) :: t) ST M h = Rn X d 125 28 (l0 :: some (.int x) :: t) (.int x :: ST) M h := r_iload_n mt_125 dX5_crashes_27 rfl
theorem e125_28 : Rn X d 125 28 LS ST M h = Rn X d 125 29 LS (.int (zN 0) :: ST) M h := r_iconst mt_125 dX5_crashes_28 c_ic0
theorem e125_29 : Rn X d 125 29 (some (.ref a) :: t) ST M h = Rn X d 125 30 (some (.ref a) :: t) (.ref a :: ST) M h := r_aload_n mt_125 dX5_crashes_29 rfl
theorem e125_30 : Rn X d 125 30 (l0 :: some (.int x) :: t) ST M h = Rn X d 125 31 (l0 :: some (.int x) :: t) (.int x :: ST) M h := r_iload_n mt_125 dX5_crashes_30 rfl
theorem e125_31 : Rn X d 125 31 LS ST M h = Rn X d 125 32 LS (.int (zN 4) :: ST) M h := r_iconst mt_125 dX5_crashes_31 c_ic4
theorem e125_32 (hcs : Nat.ble (j_cs ST) 8 = true) : Rn X (d + 1) 125 32 LS (.int y :: .int x :: .ref a :: ST) M h = j_rc (M a) 5 (q_k X (Rn X d 106 0 [some (.ref a), some (.int x), some (.int y)] [] M (j_h0 h)) h (d + 1) 125 35 LS ST) := s_callV mt_125 dX5_crashes_32 cl_5_57 mt_106 rfl rfl (Nat.le_add_left _ _) rfl rfl rfl rfl hcs
theorem e125_35 (hcs : Nat.ble (j_cs ST) 8 = true) : Rn X (d + 1) 125 35 LS (.int z :: .int y :: .int x :: .ref a :: ST) M h = j_rc (M a) 5 (q_k X (Rn X d 107 0 [some (.ref a), some (.int x), some (.int y), some (.int z)] [] M (j_h0 h)) h (d + 1) 125 38 LS ST) := s_callV mt_125 dX5_crashes_35 cl_5_85 mt_107 rfl rfl (Nat.le_add_left _ _) rfl rfl rfl rfl hcs
theorem e125_38 : Rn X d 125 38 LS ST M h = Rn X d 125 39 LS (.int (zN 0) :: ST) M h := r_iconst mt_125 dX5_crashes_38 c_ic0
theorem e125_39 (ho : j_one l1 = true) : Rn X d 125 39 (l0 :: l1 :: l2 :: t) (.int x :: ST) M h = Rn X d 125 40 (l0 :: l1 :: some (.int x) :: t) ST M h := r_istore_n mt_125 dX5_crashes_39 (by show 2 < _; simp only [List.length_cons]; omega) ho rfl
theorem e125_40 : Rn X d 125 40 (l0 :: l1 :: some (.int x) :: t) ST M h = Rn X d 125 41 (l0 :: l1 :: some (.int x) :: t) (.int x :: ST) M h := r_iload_n mt_125 dX5_crashes_40 rfl
theorem e125_41 : Rn X d 125 41 LS ST M h = Rn X d 125 43 LS (.int (zN 8) :: ST) M h := r_bipush mt_125 dX5_crashes_41 c_bi8
theorem e125_43 : Rn X d 125 43 LS (.int y :: .int x :: ST) M h = q_le X y x d 125 69 46 LS ST M h := s_icge mt_125 dX5_crashes_43 rfl
theorem e125_46 : Rn X d 125 46 (some (.ref a) :: t) ST M h = Rn X d 125 47 (some (.ref a) :: t) (.ref a :: ST) M h := r_aload_n mt_125 dX5_crashes_46 rfl
theorem e125_47 : Rn X d 125 47 (l0 :: some (.int x) :: t) ST M h = Rn X d 125 48 (l0 :: some (.int x) :: t) (.int x :: ST) M h := r_iload_n mt_125 dX5_crashes_47 rfl
theorem e125_48 : Rn X d 125 48 LS ST M h = Rn X d 125 49 LS (.int (zN 5) :: ST) M h := r_iconst mt_125 dX5_crashes_48 c_ic5
theorem e125_49 : Rn X d 125 49 (l0 :: l1 :: some (.int x) :: t) ST M h = Rn X d 125 50 (l0 :: l1 :: some (.int x) :: t) (.int x :: ST) M h := r_iload_n mt_125 dX5_crashes_49 rfl
theorem e125_50 : Rn X d 125 50 LS (.int y :: .int x :: ST) M h = Rn X d 125 51 LS (.int (x + y) :: ST) M h := r_iadd mt_125 dX5_crashes_50
theorem e125_51 : Rn X d 125 51 (some (.ref a) :: t) ST M h = Rn X d 125 52 (some (.ref a) :: t) (.ref a :: ST) M h := r_aload_n mt_125 dX5_crashes_51 rfl
theorem e125_52 : Rn X d 125 52 (l0 :: some (.int x) :: t) ST M h = Rn X d 125 53 (l0 :: some (.int x) :: t) (.int x :: ST) M h := r_iload_n mt_125 dX5_crashes_52 rfl
theorem e125_53 : Rn X d 125 53 LS ST M h = Rn X d 125 55 LS (.int (zN 13) :: ST) M h := r_bipush mt_125 dX5_crashes_53 c_bi13
theorem e125_55 : Rn X d 125 55 (l0 :: l1 :: some (.int x) :: t) ST M h = Rn X d 125 56 (l0 :: l1 :: some (.int x) :: t) (.int x :: ST) M h := r_iload_n mt_125 dX5_crashes_55 rfl
theorem e125_56 : Rn X d 125 56 LS (.int y :: .int x :: ST) M h = Rn X d 125 57 LS (.int (x + y) :: ST) M h := r_iadd mt_125 dX5_crashes_56
theorem e125_57 (hcs : Nat.ble (j_cs ST) 8 = true) : Rn X (d + 1) 125 57 LS (.int y :: .int x :: .ref a :: ST) M h = j_rc (M a) 5 (q_k X (Rn X d 106 0 [some (.ref a), some (.int x), some (.int y)] [] M (j_h0 h)) h (d + 1) 125 60 LS ST) := s_callV mt_125 dX5_crashes_57 cl_5_57 mt_106 rfl rfl (Nat.le_add_left _ _) rfl rfl rfl rfl hcs
theorem e125_60 (hcs : Nat.ble (j_cs ST) 8 = true) : Rn X (d + 1) 125 60 LS (.int z :: .int y :: .int x :: .ref a :: ST) M h = j_rc (M a) 5 (q_k X (Rn X d 107 0 [some (.ref a), some (.int x), some (.int y), some (.int z)] [] M (j_h0 h)) h (d + 1) 125 63 LS ST) := s_callV mt_125 dX5_crashes_60 cl_5_85 mt_107 rfl rfl (Nat.le_add_left _ _) rfl rfl rfl rfl hcs
theorem e125_63 (ho : j_one l1 = true) : Rn X d 125 63 (l0 :: l1 :: some (.int x) :: t) ST M h = Rn X d 125 66 (l0 :: l1 :: some (.int (x + (zN 1))) :: t) ST M h := r_iinc mt_125 dX5_crashes_63 rfl (by simp only [List.length_cons]; omega) ho c_ic1 rfl
theorem e125_66 : Rn X d 125 66 LS ST M h = Rn X d 125 40 LS ST M h := r_goto mt_125 dX5_crashes_66 rfl
theorem e125_69 : Rn X d 125 69 (some (.ref a) :: t) ST M h = Rn X d 125 70 (some (.ref a) :: t) (.ref a :: ST) M h := r_aload_n mt_125 dX5_crashes_69 rfl
theorem e125_70 : Rn X d 125 70 (l0 :: some (.int x) :: t) ST M h = Rn X d 125 71 (l0 :: some (.int x) :: t) (.int x :: ST) M h := r_iload_n mt_125 dX5_crashes_70 rfl
theorem e125_71 : Rn X d 125 71 LS ST M h = Rn X d 125 72 LS (.int (zN 3) :: ST) M h := r_iconst mt_125 dX5_crashes_71 c_ic3
theorem e125_72 : Rn X d 125 72 (some (.ref a) :: t) ST M h = Rn X d 125 73 (some (.ref a) :: t) (.ref a :: ST) M h := r_aload_n mt_125 dX5_crashes_72 rfl
theorem e125_73 : Rn X d 125 73 (l0 :: some (.int x) :: t) ST M h = Rn X d 125 74 (l0 :: some (.int x) :: t) (.int x :: ST) M h := r_iload_n mt_125 dX5_crashes_73 rfl
theorem e125_74 : Rn X d 125 74 LS ST M h = Rn X d 125 75 LS (.int (zN 3) :: ST) M h := r_iconst mt_125 dX5_crashes_74 c_ic3
theorem e125_75 (hcs : Nat.ble (j_cs ST) 8 = true) : Rn X (d + 1) 125 75 LS (.int y :: .int x :: .ref a :: ST) M h = j_rc (M a) 5 (q_k X (Rn X d 106 0 [some (.ref a), some (.int x), some (.int y)] [] M (j_h0 h)) h (d + 1) 125 78 LS ST) := s_callV mt_125 dX5_crashes_75 cl_5_57 mt_106 rfl rfl (Nat.le_add_left _ _) rfl rfl rfl rfl hcs
theorem e125_78 : Rn X d 125 78 LS ST M h = Rn X d 125 79 LS (.int (zN 1) :: ST) M h := r_iconst mt_125 dX5_crashes_78 c_ic1
theorem e125_79 : Rn X d 125 79 LS (.int y :: .int x :: ST) M h = Rn X d 125 80 LS (.int (x + y) :: ST) M h := r_iadd mt_125 dX5_crashes_79
theorem e125_80 (hcs : Nat.ble (j_cs ST) 8 = true) : Rn X (d + 1) 125 80 LS (.int z :: .int y :: .int x :: .ref a :: ST) M h = j_rc (M a) 5 (q_k X (Rn X d 107 0 [some (.ref a), some (.int x), some (.int y), some (.int z)] [] M (j_h0 h)) h (d + 1) 125 83 LS ST) := s_callV mt_125 dX5_crashes_80 cl_5_85 mt_107 rfl rfl (Nat.le_add_left _ _) rfl rfl rfl rfl hcs
theorem e125_83 : Rn X d 125 83 LS ST M h = Rn X d 125 84 LS (.int (zN 0) :: ST) M h := r_iconst mt_125 dX5_crashes_83 c_ic0
theorem e125_84 : Rn X d 125 84 LS ([.int x]) M h = some (.inl (some (.int x)), M, h) := r_iret mt_125 dX5_crashes_84 rfl
theorem e126_0 : Rn X d 126 0 (l0 :: some (.int x) :: t) ST M h = Rn X d 126 1 (l0 :: some (.int x) :: t) (.int x :: ST) M h := r_iload_n mt_126 dX5_begin_0 rfl
theorem e126_1 : Rn X d 126 1 LS ST M h = Rn X d 126 2 LS (.int (zN 4) :: ST) M h := r_iconst mt_126 dX5_begin_1 c_ic4
theorem e126_2 : Rn X d 126 2 LS ST M h = Rn X d 126 4 LS (.int (zN 32) :: ST) M h := r_bipush mt_126 dX5_begin_2 c_bi32
theorem e126_4 (hcs : Nat.ble (j_cs ST) 8 = true) : Rn X (d + 1) 126 4 LS (.int z :: .int y :: .int x :: ST) M h = q_k X (Rn X d 104 0 [some (.int x), some (.int y), some (.int z)] [] M (j_h0 h)) h (d + 1) 126 7 LS ST := s_callS (Or.inl rfl) mt_126 dX5_begin_4 cl_5_33 mt_104 rfl (Nat.le_add_left _ _) rfl rfl rfl rfl hcs
theorem e126_7 : Rn X d 126 7 LS (.int x :: ST) M h = q_eq X x (zN 0) d 126 10 16 LS ST M h := s_ifne mt_126 dX5_begin_7 rfl
theorem e126_10 : Rn X d 126 10 (some (.ref a) :: t) ST M h = Rn X d 126 11 (some (.ref a) :: t) (.ref a :: ST) M h := r_aload_n mt_126 dX5_begin_10 rfl
theorem e126_11 : Rn X d 126 11 LS ST M h = Rn X d 126 12 LS (.int (zN 1) :: ST) M h := r_iconst mt_126 dX5_begin_11 c_ic1
theorem e126_12 (hcs : Nat.ble (j_cs ST) 8 = true) : Rn X (d + 1) 126 12 LS (.int x :: .ref a :: ST) M h = j_rc (M a) 5 (q_k X (Rn X d 102 0 [some (.ref a), some (.int x)] [] M (j_h0 h)) h (d + 1) 126 15 LS ST) := s_callV mt_126 dX5_begin_12 cl_5_44 mt_102 rfl rfl (Nat.le_add_left _ _) rfl rfl rfl rfl hcs
theorem e126_15 : Rn X d 126 15 LS ([.int x]) M h = some (.inl (some (.int x)), M, h) := r_iret mt_126 dX5_begin_15 rfl
theorem e126_16 : Rn X d 126 16 (some (.ref a) :: t) ST M h = Rn X d 126 17 (some (.ref a) :: t) (.ref a :: ST) M h := r_aload_n mt_126 dX5_begin_16 rfl
theorem e126_17 (hcs : Nat.ble (j_cs ST) 8 = true) : Rn X (d + 1) 126 17 LS (.ref a :: ST) M h = j_rc (M a) 5 (q_k X (Rn X d 114 0 [some (.ref a), none] [] M (j_h0 h)) h (d + 1) 126 20 LS ST) := s_callV mt_126 dX5_begin_17 cl_5_91 mt_114 rfl rfl (Nat.le_add_left _ _) rfl rfl rfl rfl hcs
theorem e126_20 : Rn X d 126 20 (some (.ref a) :: t) ST M h = Rn X d 126 21 (some (.ref a) :: t) (.ref a :: ST) M h := r_aload_n mt_126 dX5_begin_20 rfl
theorem e126_21 (hcs : Nat.ble (j_cs ST) 8 = true) : Rn X (d + 1) 126 21 LS (.ref a :: ST) M h = j_rc (M a) 5 (q_k X (Rn X d 115 0 [some (.ref a), none] [] M (j_h0 h)) h (d + 1) 126 24 LS ST) := s_callV mt_126 dX5_begin_21 cl_5_48 mt_115 rfl rfl (Nat.le_add_left _ _) rfl rfl rfl rfl hcs
theorem e126_24 : Rn X d 126 24 (some (.ref a) :: t) ST M h = Rn X d 126 25 (some (.ref a) :: t) (.ref a :: ST) M h := r_aload_n mt_126 dX5_begin_24 rfl
theorem e126_25 (hcs : Nat.ble (j_cs ST) 8 = true) : Rn X (d + 1) 126 25 LS (.ref a :: ST) M h = j_rc (M a) 5 (q_k X (Rn X d 113 0 [some (.ref a)] [] M (j_h0 h)) h (d + 1) 126 28 LS ST) := s_callV mt_126 dX5_begin_25 cl_5_67 mt_113 rfl rfl (Nat.le_add_left _ _) rfl rfl rfl rfl hcs
theorem e126_28 (ho : j_one l1 = true) : Rn X d 126 28 (l0 :: l1 :: l2 :: t) (.int x :: ST) M h = Rn X d 126 29 (l0 :: l1 :: some (.int x) :: t) ST M h := r_istore_n mt_126 dX5_begin_28 (by show 2 < _; simp only [List.length_cons]; omega) ho rfl
theorem e126_29 : Rn X d 126 29 (some (.ref a) :: t) ST M h = Rn X d 126 30 (some (.ref a) :: t) (.ref a :: ST) M h := r_aload_n mt_126 dX5_begin_29 rfl
theorem e126_30 : Rn X d 126 30 (l0 :: some (.int x) :: t) ST M h = Rn X d 126 31 (l0 :: some (.int x) :: t) (.int x :: ST) M h := r_iload_n mt_126 dX5_begin_30 rfl
theorem e126_31 (hcs : Nat.ble (j_cs ST) 8 = true) : Rn X (d + 1) 126 31 LS (.int x :: .ref a :: ST) M h = j_rc (M a) 5 (q_k X (Rn X d 105 0 [some (.ref a), some (.int x), none] [] M (j_h0 h)) h (d + 1) 126 34 LS ST) := s_callV mt_126 dX5_begin_31 cl_5_25 mt_105 rfl rfl (Nat.le_add_left _ _) rfl rfl rfl rfl hcs
theorem e126_34 : Rn X d 126 34 (some (.ref a) :: t) ST M h = Rn X d 126 35 (some (.ref a) :: t) (.ref a :: ST) M h := r_aload_n mt_126 dX5_begin_34 rfl
theorem e126_35 : Rn X d 126 35 (l0 :: l1 :: some (.int x) :: t) ST M h = Rn X d 126 36 (l0 :: l1 :: some (.int x) :: t) (.int x :: ST) M h := r_iload_n mt_126 dX5_begin_35 rfl
theorem e126_36 (hcs : Nat.ble (j_cs ST) 8 = true) : Rn X (d + 1) 126 36 LS (.int x :: .ref a :: ST) M h = j_rc (M a) 5 (q_k X (Rn X d 103 0 [some (.ref a), some (.int x)] [] M (j_h0 h)) h (d + 1) 126 39 LS ST) := s_callV mt_126 dX5_begin_36 cl_5_54 mt_103 rfl rfl (Nat.le_add_left _ _) rfl rfl rfl rfl hcs
theorem e126_39 : Rn X d 126 39 LS ([.int x]) M h = some (.inl (some (.int x)), M, h) := r_iret mt_126 dX5_begin_39 rfl
theorem e127_0 : Rn X d 127 0 (some (.ref a) :: t) ST M h = Rn X d 127 1 (some (.ref a) :: t) (.ref a :: ST) M h := r_aload_n mt_127 dX5_write_0 rfl
theorem e127_1 (hcs : Nat.ble (j_cs ST) 8 = true) : Rn X (d + 1) 127 1 LS (.ref a :: ST) M h = j_rc (M a) 5 (q_k X (Rn X d 114 0 [some (.ref a), none] [] M (j_h0 h)) h (d + 1) 127 4 LS ST) := s_callV mt_127 dX5_write_1 cl_5_91 mt_114 rfl rfl (Nat.le_add_left _ _) rfl rfl rfl rfl hcs
theorem e127_4 : Rn X d 127 4 (some (.ref a) :: t) ST M h = Rn X d 127 5 (some (.ref a) :: t) (.ref a :: ST) M h := r_aload_n mt_127 dX5_write_4 rfl
theorem e127_5 : Rn X d 127 5 (some (.ref a) :: t) ST M h = Rn X d 127 6 (some (.ref a) :: t) (.ref a :: ST) M h := r_aload_n mt_127 dX5_write_5 rfl
theorem e127_6 : Rn X d 127 6 (l0 :: some (.int x) :: t) ST M h = Rn X d 127 7 (l0 :: some (.int x) :: t) (.int x :: ST) M h := r_iload_n mt_127 dX5_write_6 rfl
theorem e127_7 : Rn X d 127 7 (l0 :: l1 :: some (.int x) :: t) ST M h = Rn X d 127 8 (l0 :: l1 :: some (.int x) :: t) (.int x :: ST) M h := r_iload_n mt_127 dX5_write_7 rfl
theorem e127_8 : Rn X d 127 8 (l0 :: l1 :: l2 :: some (.int x) :: t) ST M h = Rn X d 127 9 (l0 :: l1 :: l2 :: some (.int x) :: t) (.int x :: ST) M h := r_iload_n mt_127 dX5_write_8 rfl
theorem e127_9 : Rn X d 127 9 (l0 :: l1 :: l2 :: l3 :: some (.int x) :: t) ST M h = Rn X d 127 11 (l0 :: l1 :: l2 :: l3 :: some (.int x) :: t) (.int x :: ST) M h := r_iload mt_127 dX5_write_9 rfl
theorem e127_11 (hcs : Nat.ble (j_cs ST) 8 = true) : Rn X (d + 1) 127 11 LS (.int w :: .int z :: .int y :: .int x :: .ref a :: ST) M h = j_rc (M a) 5 (q_k X (Rn X d 122 0 [some (.ref a), some (.int x), some (.int y), some (.int z), some (.int w)] [] M (j_h0 h)) h (d + 1) 127 14 LS ST) := s_callV mt_127 dX5_write_11 cl_5_94 mt_122 rfl rfl (Nat.le_add_left _ _) rfl rfl rfl rfl hcs
theorem e127_14 (hcs : Nat.ble (j_cs ST) 8 = true) : Rn X (d + 1) 127 14 LS (.int x :: .ref a :: ST) M h = j_rc (M a) 5 (q_k X (Rn X d 116 0 [some (.ref a), some (.int x)] [] M (j_h0 h)) h (d + 1) 127 17 LS ST) := s_callV mt_127 dX5_write_14 cl_5_98 mt_116 rfl rfl (Nat.le_add_left _ _) rfl rfl rfl rfl hcs
theorem e127_17 : Rn X d 127 17 LS ([.int x]) M h = some (.inl (some (.int x)), M, h) := r_iret mt_127 dX5_write_17 rfl
theorem e128_0 : Rn X d 128 0 (some (.int x) :: t) ST M h = Rn X d 128 1 (some (.int x) :: t) (.int x :: ST) M h := r_iload_n mt_128 dX5_ones_0 rfl
theorem e128_1 : Rn X d 128 1 LS ST M h = Rn X d 128 2 LS (.int (zN 1) :: ST) M h := r_iconst mt_128 dX5_ones_1 c_ic1
theorem e128_2 : Rn X d 128 2 LS (.int y :: .int x :: ST) M h = Rn X d 128 3 LS (.int (x &&& y) :: ST) M h := r_iand mt_128 dX5_ones_2
theorem e128_3 : Rn X d 128 3 (some (.int x) :: t) ST M h = Rn X d 128 4 (some (.int x) :: t) (.int x :: ST) M h := r_iload_n mt_128 dX5_ones_3 rfl
theorem e128_4 : Rn X d 128 4 LS ST M h = Rn X d 128 5 LS (.int (zN 1) :: ST) M h := r_iconst mt_128 dX5_ones_4 c_ic1
theorem e128_5 : Rn X d 128 5 LS (.int y :: .int x :: ST) M h = Rn X d 128 6 LS (.int (x >>> (y &&& 31)) :: ST) M h := r_ishr mt_128 dX5_ones_5
theorem e128_6 : Rn X d 128 6 LS ST M h = Rn X d 128 7 LS (.int (zN 1) :: ST) M h := r_iconst mt_128 dX5_ones_6 c_ic1
theorem e128_7 : Rn X d 128 7 LS (.int y :: .int x :: ST) M h = Rn X d 128 8 LS (.int (x &&& y) :: ST) M h := r_iand mt_128 dX5_ones_7
theorem e128_8 : Rn X d 128 8 LS (.int y :: .int x :: ST) M h = Rn X d 128 9 LS (.int (x + y) :: ST) M h := r_iadd mt_128 dX5_ones_8
theorem e128_9 : Rn X d 128 9 LS ([.int x]) M h = some (.inl (some (.int x)), M, h) := r_iret mt_128 dX5_ones_9 rfl
theorem e129_0 : Rn X d 129 0 (some (.ref a) :: t) ST M h = Rn X d 129 1 (some (.ref a) :: t) (.ref a :: ST) M h := r_aload_n mt_129 dX5_spoil_0 rfl
theorem e129_1 : Rn X d 129 1 (l0 :: some (.int x) :: t) ST M h = Rn X d 129 2 (l0 :: some (.int x) :: t) (.int x :: ST) M h := r_iload_n mt_129 dX5_spoil_1 rfl
theorem e129_2 (hcs : Nat.ble (j_cs ST) 8 = true) : Rn X (d + 1) 129 2 LS (.int x :: .ref a :: ST) M h = j_rc (M a) 5 (q_k X (Rn X d 111 0 [some (.ref a), some (.int x)] [] M (j_h0 h)) h (d + 1) 129 5 LS ST) := s_callV mt_129 dX5_spoil_2 cl_5_101 mt_111 rfl rfl (Nat.le_add_left _ _) rfl rfl rfl rfl hcs
theorem e129_5 : Rn X d 129 5 LS (.int x :: ST) M h = q_eq X x (zN 0) d 129 8 14 LS ST M h := s_ifne mt_129 dX5_spoil_5 rfl
theorem e129_8 : Rn X d 129 8 (some (.ref a) :: t) ST M h = Rn X d 129 9 (some (.ref a) :: t) (.ref a :: ST) M h := r_aload_n mt_129 dX5_spoil_8 rfl
theorem e129_9 : Rn X d 129 9 LS ST M h = Rn X d 129 10 LS (.int (zN 1) :: ST) M h := r_iconst mt_129 dX5_spoil_9 c_ic1
theorem e129_10 (hcs : Nat.ble (j_cs ST) 8 = true) : Rn X (d + 1) 129 10 LS (.int x :: .ref a :: ST) M h = j_rc (M a) 5 (q_k X (Rn X d 102 0 [some (.ref a), some (.int x)] [] M (j_h0 h)) h (d + 1) 129 13 LS ST) := s_callV mt_129 dX5_spoil_10 cl_5_44 mt_102 rfl rfl (Nat.le_add_left _ _) rfl rfl rfl rfl hcs
theorem e129_13 : Rn X d 129 13 LS ([.int x]) M h = some (.inl (some (.int x)), M, h) := r_iret mt_129 dX5_spoil_13 rfl
theorem e129_14 : Rn X d 129 14 (l0 :: l1 :: some (.int x) :: t) ST M h = Rn X d 129 15 (l0 :: l1 :: some (.int x) :: t) (.int x :: ST) M h := r_iload_n mt_129 dX5_spoil_14 rfl
theorem e129_15 : Rn X d 129 15 LS ST M h = Rn X d 129 16 LS (.int (zN 0) :: ST) M h := r_iconst mt_129 dX5_spoil_15 c_ic0
theorem e129_16 : Rn X d 129 16 LS ST M h = Rn X d 129 17 LS (.int (zN 1) :: ST) M h := r_iconst mt_129 dX5_spoil_16 c_ic1
theorem e129_17 (hcs : Nat.ble (j_cs ST) 8 = true) : Rn X (d + 1) 129 17 LS (.int z :: .int y :: .int x :: ST) M h = q_k X (Rn X d 104 0 [some (.int x), some (.int y), some (.int z)] [] M (j_h0 h)) h (d + 1) 129 20 LS ST := s_callS (Or.inl rfl) mt_129 dX5_spoil_17 cl_5_33 mt_104 rfl (Nat.le_add_left _ _) rfl rfl rfl rfl hcs
theorem e129_20 : Rn X d 129 20 LS (.int x :: ST) M h = q_eq X x (zN 0) d 129 23 29 LS ST M h := s_ifne mt_129 dX5_spoil_20 rfl
theorem e129_23 : Rn X d 129 23 (some (.ref a) :: t) ST M h = Rn X d 129 24 (some (.ref a) :: t) (.ref a :: ST) M h := r_aload_n mt_129 dX5_spoil_23 rfl
theorem e129_24 : Rn X d 129 24 LS ST M h = Rn X d 129 25 LS (.int (zN 2) :: ST) M h := r_iconst mt_129 dX5_spoil_24 c_ic2
theorem e129_25 (hcs : Nat.ble (j_cs ST) 8 = true) : Rn X (d + 1) 129 25 LS (.int x :: .ref a :: ST) M h = j_rc (M a) 5 (q_k X (Rn X d 102 0 [some (.ref a), some (.int x)] [] M (j_h0 h)) h (d + 1) 129 28 LS ST) := s_callV mt_129 dX5_spoil_25 cl_5_44 mt_102 rfl rfl (Nat.le_add_left _ _) rfl rfl rfl rfl hcs
theorem e129_28 : Rn X d 129 28 LS ([.int x]) M h = some (.inl (some (.int x)), M, h) := r_iret mt_129 dX5_spoil_28 rfl
theorem e129_29 : Rn X d 129 29 (some (.ref a) :: t) ST M h = Rn X d 129 30 (some (.ref a) :: t) (.ref a :: ST) M h := r_aload_n mt_129 dX5_spoil_29 rfl
theorem e129_30 (hcs : Nat.ble (j_cs ST) 8 = true) : Rn X (d + 1) 129 30 LS (.ref a :: ST) M h = j_rc (M a) 5 (q_k X (Rn X d 114 0 [some (.ref a), none] [] M (j_h0 h)) h (d + 1) 129 33 LS ST) := s_callV mt_129 dX5_spoil_30 cl_5_91 mt_114 rfl rfl (Nat.le_add_left _ _) rfl rfl rfl rfl hcs
theorem e129_33 : Rn X d 129 33 (some (.ref a) :: t) ST M h = Rn X d 129 34 (some (.ref a) :: t) (.ref a :: ST) M h := r_aload_n mt_129 dX5_spoil_33 rfl
theorem e129_34 (hcs : Nat.ble (j_cs ST) 8 = true) : Rn X (d + 1) 129 34 LS (.ref a :: ST) M h = j_rc (M a) 5 (q_k X (Rn X d 115 0 [some (.ref a), none] [] M (j_h0 h)) h (d + 1) 129 37 LS ST) := s_callV mt_129 dX5_spoil_34 cl_5_48 mt_115 rfl rfl (Nat.le_add_left _ _) rfl rfl rfl rfl hcs
theorem e129_37 : Rn X d 129 37 (some (.ref a) :: t) ST M h = Rn X d 129 38 (some (.ref a) :: t) (.ref a :: ST) M h := r_aload_n mt_129 dX5_spoil_37 rfl
theorem e129_38 : Rn X d 129 38 (l0 :: some (.int x) :: t) ST M h = Rn X d 129 39 (l0 :: some (.int x) :: t) (.int x :: ST) M h := r_iload_n mt_129 dX5_spoil_38 rfl
theorem e129_39 : Rn X d 129 39 LS ST M h = Rn X d 129 40 LS (.int (zN 4) :: ST) M h := r_iconst mt_129 dX5_spoil_39 c_ic4
theorem e129_40 : Rn X d 129 40 (some (.ref a) :: t) ST M h = Rn X d 129 41 (some (.ref a) :: t) (.ref a :: ST) M h := r_aload_n mt_129 dX5_spoil_40 rfl
theorem e129_41 : Rn X d 129 41 (l0 :: some (.int x) :: t) ST M h = Rn X d 129 42 (l0 :: some (.int x) :: t) (.int x :: ST) M h := r_iload_n mt_129 dX5_spoil_41 rfl
theorem e129_42 : Rn X d 129 42 LS ST M h = Rn X d 129 43 LS (.int (zN 4) :: ST) M h := r_iconst mt_129 dX5_spoil_42 c_ic4
theorem e129_43 (hcs : Nat.ble (j_cs ST) 8 = true) : Rn X (d + 1) 129 43 LS (.int y :: .int x :: .ref a :: ST) M h = j_rc (M a) 5 (q_k X (Rn X d 108 0 [some (.ref a), some (.int x), some (.int y)] [] M (j_h0 h)) h (d + 1) 129 46 LS ST) := s_callV mt_129 dX5_spoil_43 cl_5_37 mt_108 rfl rfl (Nat.le_add_left _ _) rfl rfl rfl rfl hcs
theorem e129_46 : Rn X d 129 46 LS ST M h = Rn X d 129 47 LS (.int (zN 1) :: ST) M h := r_iconst mt_129 dX5_spoil_46 c_ic1
theorem e129_47 : Rn X d 129 47 (l0 :: l1 :: some (.int x) :: t) ST M h = Rn X d 129 48 (l0 :: l1 :: some (.int x) :: t) (.int x :: ST) M h := r_iload_n mt_129 dX5_spoil_47 rfl
theorem e129_48 : Rn X d 129 48 LS (.int y :: .int x :: ST) M h = Rn X d 129 49 LS (.int (x <<< (y &&& 31)) :: ST) M h := r_ishl mt_129 dX5_spoil_48
theorem e129_49 : Rn X d 129 49 LS (.int y :: .int x :: ST) M h = Rn X d 129 50 LS (.int (x ||| y) :: ST) M h := r_ior mt_129 dX5_spoil_49
theorem e129_50 (hcs : Nat.ble (j_cs ST) 8 = true) : Rn X (d + 1) 129 50 LS (.int z :: .int y :: .int x :: .ref a :: ST) M h = j_rc (M a) 5 (q_k X (Rn X d 109 0 [some (.ref a), some (.int x), some (.int y), some (.int z)] [] M (j_h0 h)) h (d + 1) 129 53 LS ST) := s_callV mt_129 dX5_spoil_50 cl_5_71 mt_109 rfl rfl (Nat.le_add_left _ _) rfl rfl rfl rfl hcs
theorem e129_53 : Rn X d 129 53 (some (.ref a) :: t) ST M h = Rn X d 129 54 (some (.ref a) :: t) (.ref a :: ST) M h := r_aload_n mt_129 dX5_spoil_53 rfl
theorem e129_54 : Rn X d 129 54 (some (.ref a) :: t) ST M h = Rn X d 129 55 (some (.ref a) :: t) (.ref a :: ST) M h := r_aload_n mt_129 dX5_spoil_54 rfl
theorem e129_55 : Rn X d 129 55 (l0 :: some (.int x) :: t) ST M h = Rn X d 129 56 (l0 :: some (.int x) :: t) (.int x :: ST) M h := r_iload_n mt_129 dX5_spoil_55 rfl
theorem e129_56 : Rn X d 129 56 LS ST M h = Rn X d 129 57 LS (.int (zN 4) :: ST) M h := r_iconst mt_129 dX5_spoil_56 c_ic4
theorem e129_57 (hcs : Nat.ble (j_cs ST) 8 = true) : Rn X (d + 1) 129 57 LS (.int y :: .int x :: .ref a :: ST) M h = j_rc (M a) 5 (q_k X (Rn X d 108 0 [some (.ref a), some (.int x), some (.int y)] [] M (j_h0 h)) h (d + 1) 129 60 LS ST) := s_callV mt_129 dX5_spoil_57 cl_5_37 mt_108 rfl rfl (Nat.le_add_left _ _) rfl rfl rfl rfl hcs
theorem e129_60 (hcs : Nat.ble (j_cs ST) 8 = true) : Rn X (d + 1) 129 60 LS (.int x :: ST) M h = q_k X (Rn X d 128 0 [some (.int x)] [] M (j_h0 h)) h (d + 1) 129 63 LS ST := s_callS (Or.inl rfl) mt_129 dX5_spoil_60 cl_5_104 mt_128 rfl (Nat.le_add_left _ _) rfl rfl rfl rfl hcs
theorem e129_63 (hcs : Nat.ble (j_cs ST) 8 = true) : Rn X (d + 1) 129 63 LS (.int x :: .ref a :: ST) M h = j_rc (M a) 5 (q_k X (Rn X d 103 0 [some (.ref a), some (.int x)] [] M (j_h0 h)) h (d + 1) 129 66 LS ST) := s_callV mt_129 dX5_spoil_63 cl_5_54 mt_103 rfl rfl (Nat.le_add_left _ _) rfl rfl rfl rfl hcs
theorem e129_66 : Rn X d 129 66 LS ([.int x]) M h = some (.inl (some (.int x)), M, h) := r_iret mt_129 dX5_spoil_66 rfl
theorem e130_0 : Rn X d 130 0 (some (.ref a) :: t) ST M h = Rn X d 130 1 (some (.ref a) :: t) (.ref a :: ST) M h := r_aload_n mt_130 dX5_isKnown_0 rfl
theorem e130_1 : Rn X d 130 1 LS ST M h = Rn X d 130 2 LS (.int (zN 0) :: ST) M h := r_iconst mt_130 dX5_isKnown_1 c_ic0
theorem e130_2 : Rn X d 130 2 LS ST M h = Rn X d 130 3 LS (.int (zN 1) :: ST) M h := r_iconst mt_130 dX5_isKnown_2 c_ic1
theorem e130_3 (hcs : Nat.ble (j_cs ST) 8 = true) : Rn X (d + 1) 130 3 LS (.int y :: .int x :: .ref a :: ST) M h = j_rc (M a) 5 (q_k X (Rn X d 106 0 [some (.ref a), some (.int x), some (.int y)] [] M (j_h0 h)) h (d + 1) 130 6 LS ST) := s_callV mt_130 dX5_isKnown_3 cl_5_57 mt_106 rfl rfl (Nat.le_add_left _ _) rfl rfl rfl rfl hcs
theorem e130_6 : Rn X d 130 6 LS ST M h = Rn X d 130 7 LS (.int (zN 1) :: ST) M h := r_iconst mt_130 dX5_isKnown_6 c_ic1
theorem e130_7 : Rn X d 130 7 LS (.int y :: .int x :: ST) M h = q_eq X x y d 130 10 20 LS ST M h := s_icne mt_130 dX5_isKnown_7 rfl
theorem e130_10 : Rn X d 130 10 (some (.ref a) :: t) ST M h = Rn X d 130 11 (some (.ref a) :: t) (.ref a :: ST) M h := r_aload_n mt_130 dX5_isKnown_10 rfl
theorem e130_11 : Rn X d 130 11 LS ST M h = Rn X d 130 12 LS (.int (zN 0) :: ST) M h := r_iconst mt_130 dX5_isKnown_11 c_ic0
theorem e130_12 : Rn X d 130 12 LS ST M h = Rn X d 130 13 LS (.int (zN 0) :: ST) M h := r_iconst mt_130 dX5_isKnown_12 c_ic0
theorem e130_13 (hcs : Nat.ble (j_cs ST) 8 = true) : Rn X (d + 1) 130 13 LS (.int y :: .int x :: .ref a :: ST) M h = j_rc (M a) 5 (q_k X (Rn X d 106 0 [some (.ref a), some (.int x), some (.int y)] [] M (j_h0 h)) h (d + 1) 130 16 LS ST) := s_callV mt_130 dX5_isKnown_13 cl_5_57 mt_106 rfl rfl (Nat.le_add_left _ _) rfl rfl rfl rfl hcs
theorem e130_16 : Rn X d 130 16 (l0 :: some (.int x) :: t) ST M h = Rn X d 130 17 (l0 :: some (.int x) :: t) (.int x :: ST) M h := r_iload_n mt_130 dX5_isKnown_16 rfl
theorem e130_17 : Rn X d 130 17 LS (.int y :: .int x :: ST) M h = q_lt X y x d 130 40 20 LS ST M h := s_icgt mt_130 dX5_isKnown_17 rfl
theorem e130_20 : Rn X d 130 20 (some (.ref a) :: t) ST M h = Rn X d 130 21 (some (.ref a) :: t) (.ref a :: ST) M h := r_aload_n mt_130 dX5_isKnown_20 rfl
theorem e130_21 : Rn X d 130 21 LS ST M h = Rn X d 130 22 LS (.int (zN 1) :: ST) M h := r_iconst mt_130 dX5_isKnown_21 c_ic1
theorem e130_22 : Rn X d 130 22 LS ST M h = Rn X d 130 23 LS (.int (zN 1) :: ST) M h := r_iconst mt_130 dX5_isKnown_22 c_ic1
theorem e130_23 (hcs : Nat.ble (j_cs ST) 8 = true) : Rn X (d + 1) 130 23 LS (.int y :: .int x :: .ref a :: ST) M h = j_rc (M a) 5 (q_k X (Rn X d 106 0 [some (.ref a), some (.int x), some (.int y)] [] M (j_h0 h)) h (d + 1) 130 26 LS ST) := s_callV mt_130 dX5_isKnown_23 cl_5_57 mt_106 rfl rfl (Nat.le_add_left _ _) rfl rfl rfl rfl hcs
theorem e130_26 : Rn X d 130 26 LS ST M h = Rn X d 130 27 LS (.int (zN 1) :: ST) M h := r_iconst mt_130 dX5_isKnown_26 c_ic1
theorem e130_27 : Rn X d 130 27 LS (.int y :: .int x :: ST) M h = q_eq X x y d 130 30 44 LS ST M h := s_icne mt_130 dX5_isKnown_27 rfl
theorem e130_30 : Rn X d 130 30 (some (.ref a) :: t) ST M h = Rn X d 130 31 (some (.ref a) :: t) (.ref a :: ST) M h := r_aload_n mt_130 dX5_isKnown_30 rfl
theorem e130_31 : Rn X d 130 31 LS ST M h = Rn X d 130 32 LS (.int (zN 1) :: ST) M h := r_iconst mt_130 dX5_isKnown_31 c_ic1
theorem e130_32 : Rn X d 130 32 LS ST M h = Rn X d 130 33 LS (.int (zN 0) :: ST) M h := r_iconst mt_130 dX5_isKnown_32 c_ic0
theorem e130_33 (hcs : Nat.ble (j_cs ST) 8 = true) : Rn X (d + 1) 130 33 LS (.int y :: .int x :: .ref a :: ST) M h = j_rc (M a) 5 (q_k X (Rn X d 106 0 [some (.ref a), some (.int x), some (.int y)] [] M (j_h0 h)) h (d + 1) 130 36 LS ST) := s_callV mt_130 dX5_isKnown_33 cl_5_57 mt_106 rfl rfl (Nat.le_add_left _ _) rfl rfl rfl rfl hcs
theorem e130_36 : Rn X d 130 36 (l0 :: some (.int x) :: t) ST M h = Rn X d 130 37 (l0 :: some (.int x) :: t) (.int x :: ST) M h := r_iload_n mt_130 dX5_isKnown_36 rfl
theorem e130_37 : Rn X d 130 37 LS (.int y :: .int x :: ST) M h = q_le X x y d 130 44 40 LS ST M h := s_icle mt_130 dX5_isKnown_37 rfl
theorem e130_40 : Rn X d 130 40 LS ST M h = Rn X d 130 41 LS (.int (zN 1) :: ST) M h := r_iconst mt_130 dX5_isKnown_40 c_ic1
theorem e130_41 : Rn X d 130 41 LS ST M h = Rn X d 130 45 LS ST M h := r_goto mt_130 dX5_isKnown_41 rfl
theorem e130_44 : Rn X d 130 44 LS ST M h = Rn X d 130 45 LS (.int (zN 0) :: ST) M h := r_iconst mt_130 dX5_isKnown_44 c_ic0
theorem e130_45 {v : Nat} (h0 : v < 2) : Rn X d 130 45 LS ([.int (zN v)]) M h = some (.inl (some (.int (zN v))), M, h) := s_zret mt_130 dX5_isKnown_45 rfl h0
theorem e131_0 : Rn X d 131 0 (some (.ref a) :: t) ST M h = Rn X d 131 1 (some (.ref a) :: t) (.ref a :: ST) M h := r_aload_n mt_131 dX5_repair_0 rfl
theorem e131_1 (hcs : Nat.ble (j_cs ST) 8 = true) : Rn X (d + 1) 131 1 LS (.ref a :: ST) M h = j_rc (M a) 5 (q_k X (Rn X d 114 0 [some (.ref a), none] [] M (j_h0 h)) h (d + 1) 131 4 LS ST) := s_callV mt_131 dX5_repair_1 cl_5_91 mt_114 rfl rfl (Nat.le_add_left _ _) rfl rfl rfl rfl hcs
theorem e131_4 : Rn X d 131 4 (some (.ref a) :: t) ST M h = Rn X d 131 5 (some (.ref a) :: t) (.ref a :: ST) M h := r_aload_n mt_131 dX5_repair_4 rfl
theorem e131_5 (hcs : Nat.ble (j_cs ST) 8 = true) : Rn X (d + 1) 131 5 LS (.ref a :: ST) M h = j_rc (M a) 5 (q_k X (Rn X d 115 0 [some (.ref a), none] [] M (j_h0 h)) h (d + 1) 131 8 LS ST) := s_callV mt_131 dX5_repair_5 cl_5_48 mt_115 rfl rfl (Nat.le_add_left _ _) rfl rfl rfl rfl hcs
theorem e131_8 : Rn X d 131 8 LS ST M h = Rn X d 131 9 LS (.int (zN 0) :: ST) M h := r_iconst mt_131 dX5_repair_8 c_ic0
theorem e131_9 (ho : j_one l0 = true) : Rn X d 131 9 (l0 :: l1 :: t) (.int x :: ST) M h = Rn X d 131 10 (l0 :: some (.int x) :: t) ST M h := r_istore_n mt_131 dX5_repair_9 (by show 1 < _; simp only [List.length_cons]; omega) ho rfl
theorem e131_10 : Rn X d 131 10 (some (.ref a) :: t) ST M h = Rn X d 131 11 (some (.ref a) :: t) (.ref a :: ST) M h := r_aload_n mt_131 dX5_repair_10 rfl
theorem e131_11 : Rn X d 131 11 LS (.ref a :: ST) M h = q_g X (M a) 5 0 d 131 14 LS ST M h := s_get mt_131 dX5_repair_11 f_5_7
theorem e131_14 : Rn X d 131 14 LS ST M h = Rn X d 131 15 LS (.int (zN 1) :: ST) M h := r_iconst mt_131 dX5_repair_14 c_ic1
theorem e131_15 : Rn X d 131 15 LS (.int x :: .ref a :: ST) M h = q_ld X (M a) a x d 131 16 LS ST M h := s_iald mt_131 dX5_repair_15
theorem e131_16 (ho : j_one l1 = true) : Rn X d 131 16 (l0 :: l1 :: l2 :: t) (.int x :: ST) M h = Rn X d 131 17 (l0 :: l1 :: some (.int x) :: t) ST M h := r_istore_n mt_131 dX5_repair_16 (by show 2 < _; simp only [List.length_cons]; omega) ho rfl
theorem e131_17 : Rn X d 131 17 (l0 :: l1 :: some (.int x) :: t) ST M h = Rn X d 131 18 (l0 :: l1 :: some (.int x) :: t) (.int x :: ST) M h := r_iload_n mt_131 dX5_repair_17 rfl
theorem e131_18 : Rn X d 131 18 (some (.ref a) :: t) ST M h = Rn X d 131 19 (some (.ref a) :: t) (.ref a :: ST) M h := r_aload_n mt_131 dX5_repair_18 rfl
theorem e131_19 : Rn X d 131 19 LS (.ref a :: ST) M h = q_g X (M a) 5 0 d 131 22 LS ST M h := s_get mt_131 dX5_repair_19 f_5_7
theorem e131_22 : Rn X d 131 22 LS ST M h = Rn X d 131 23 LS (.int (zN 2) :: ST) M h := r_iconst mt_131 dX5_repair_22 c_ic2
theorem e131_23 : Rn X d 131 23 LS (.int x :: .ref a :: ST) M h = q_ld X (M a) a x d 131 24 LS ST M h := s_iald mt_131 dX5_repair_23
theorem e131_24 : Rn X d 131 24 LS (.int y :: .int x :: ST) M h = q_le X y x d 131 68 27 LS ST M h := s_icge mt_131 dX5_repair_24 rfl
theorem e131_27 : Rn X d 131 27 (some (.ref a) :: t) ST M h = Rn X d 131 28 (some (.ref a) :: t) (.ref a :: ST) M h := r_aload_n mt_131 dX5_repair_27 rfl
theorem e131_28 : Rn X d 131 28 (l0 :: l1 :: some (.int x) :: t) ST M h = Rn X d 131 29 (l0 :: l1 :: some (.int x) :: t) (.int x :: ST) M h := r_iload_n mt_131 dX5_repair_28 rfl
theorem e131_29 (hcs : Nat.ble (j_cs ST) 8 = true) : Rn X (d + 1) 131 29 LS (.int x :: .ref a :: ST) M h = j_rc (M a) 5 (q_k X (Rn X d 112 0 [some (.ref a), some (.int x)] [] M (j_h0 h)) h (d + 1) 131 32 LS ST) := s_callV mt_131 dX5_repair_29 cl_5_60 mt_112 rfl rfl (Nat.le_add_left _ _) rfl rfl rfl rfl hcs
theorem e131_32 : Rn X d 131 32 LS (.int x :: ST) M h = q_eq X x (zN 0) d 131 35 43 LS ST M h := s_ifne mt_131 dX5_repair_32 rfl
theorem e131_35 : Rn X d 131 35 (some (.ref a) :: t) ST M h = Rn X d 131 36 (some (.ref a) :: t) (.ref a :: ST) M h := r_aload_n mt_131 dX5_repair_35 rfl
theorem e131_36 : Rn X d 131 36 (l0 :: l1 :: some (.int x) :: t) ST M h = Rn X d 131 37 (l0 :: l1 :: some (.int x) :: t) (.int x :: ST) M h := r_iload_n mt_131 dX5_repair_36 rfl
theorem e131_37 (hcs : Nat.ble (j_cs ST) 8 = true) : Rn X (d + 1) 131 37 LS (.int x :: .ref a :: ST) M h = j_rc (M a) 5 (q_k X (Rn X d 130 0 [some (.ref a), some (.int x)] [] M (j_h0 h)) h (d + 1) 131 40 LS ST) := s_callV mt_131 dX5_repair_37 cl_5_107 mt_130 rfl rfl (Nat.le_add_left _ _) rfl rfl rfl rfl hcs
theorem e131_40 : Rn X d 131 40 LS (.int x :: ST) M h = q_eq X x (zN 0) d 131 62 43 LS ST M h := s_ifeq mt_131 dX5_repair_40 rfl
theorem e131_43 : Rn X d 131 43 (l0 :: some (.int x) :: t) ST M h = Rn X d 131 44 (l0 :: some (.int x) :: t) (.int x :: ST) M h := r_iload_n mt_131 dX5_repair_43 rfl
theorem e131_44 : Rn X d 131 44 (some (.ref a) :: t) ST M h = Rn X d 131 45 (some (.ref a) :: t) (.ref a :: ST) M h := r_aload_n mt_131 dX5_repair_44 rfl
theorem e131_45 : Rn X d 131 45 (l0 :: l1 :: some (.int x) :: t) ST M h = Rn X d 131 46 (l0 :: l1 :: some (.int x) :: t) (.int x :: ST) M h := r_iload_n mt_131 dX5_repair_45 rfl
theorem e131_46 : Rn X d 131 46 LS ST M h = Rn X d 131 47 LS (.int (zN 4) :: ST) M h := r_iconst mt_131 dX5_repair_46 c_ic4
theorem e131_47 (hcs : Nat.ble (j_cs ST) 8 = true) : Rn X (d + 1) 131 47 LS (.int y :: .int x :: .ref a :: ST) M h = j_rc (M a) 5 (q_k X (Rn X d 108 0 [some (.ref a), some (.int x), some (.int y)] [] M (j_h0 h)) h (d + 1) 131 50 LS ST) := s_callV mt_131 dX5_repair_47 cl_5_37 mt_108 rfl rfl (Nat.le_add_left _ _) rfl rfl rfl rfl hcs
theorem e131_50 (hcs : Nat.ble (j_cs ST) 8 = true) : Rn X (d + 1) 131 50 LS (.int x :: ST) M h = q_k X (Rn X d 128 0 [some (.int x)] [] M (j_h0 h)) h (d + 1) 131 53 LS ST := s_callS (Or.inl rfl) mt_131 dX5_repair_50 cl_5_104 mt_128 rfl (Nat.le_add_left _ _) rfl rfl rfl rfl hcs
theorem e131_53 : Rn X d 131 53 LS (.int y :: .int x :: ST) M h = Rn X d 131 54 LS (.int (x + y) :: ST) M h := r_iadd mt_131 dX5_repair_53
theorem e131_54 (ho : j_one l0 = true) : Rn X d 131 54 (l0 :: l1 :: t) (.int x :: ST) M h = Rn X d 131 55 (l0 :: some (.int x) :: t) ST M h := r_istore_n mt_131 dX5_repair_54 (by show 1 < _; simp only [List.length_cons]; omega) ho rfl
theorem e131_55 : Rn X d 131 55 (some (.ref a) :: t) ST M h = Rn X d 131 56 (some (.ref a) :: t) (.ref a :: ST) M h := r_aload_n mt_131 dX5_repair_55 rfl
theorem e131_56 : Rn X d 131 56 (l0 :: l1 :: some (.int x) :: t) ST M h = Rn X d 131 57 (l0 :: l1 :: some (.int x) :: t) (.int x :: ST) M h := r_iload_n mt_131 dX5_repair_56 rfl
theorem e131_57 : Rn X d 131 57 LS ST M h = Rn X d 131 58 LS (.int (zN 4) :: ST) M h := r_iconst mt_131 dX5_repair_57 c_ic4
theorem e131_58 : Rn X d 131 58 LS ST M h = Rn X d 131 59 LS (.int (zN 0) :: ST) M h := r_iconst mt_131 dX5_repair_58 c_ic0
theorem e131_59 (hcs : Nat.ble (j_cs ST) 8 = true) : Rn X (d + 1) 131 59 LS (.int z :: .int y :: .int x :: .ref a :: ST) M h = j_rc (M a) 5 (q_k X (Rn X d 109 0 [some (.ref a), some (.int x), some (.int y), some (.int z)] [] M (j_h0 h)) h (d + 1) 131 62 LS ST) := s_callV mt_131 dX5_repair_59 cl_5_71 mt_109 rfl rfl (Nat.le_add_left _ _) rfl rfl rfl rfl hcs
theorem e131_62 (ho : j_one l1 = true) : Rn X d 131 62 (l0 :: l1 :: some (.int x) :: t) ST M h = Rn X d 131 65 (l0 :: l1 :: some (.int (x + (zN 1))) :: t) ST M h := r_iinc mt_131 dX5_repair_62 rfl (by simp only [List.length_cons]; omega) ho c_ic1 rfl
theorem e131_65 : Rn X d 131 65 LS ST M h = Rn X d 131 17 LS ST M h := r_goto mt_131 dX5_repair_65 rfl
theorem e131_68 : Rn X d 131 68 (some (.ref a) :: t) ST M h = Rn X d 131 69 (some (.ref a) :: t) (.ref a :: ST) M h := r_aload_n mt_131 dX5_repair_68 rfl
theorem e131_69 : Rn X d 131 69 LS (.ref a :: ST) M h = q_g X (M a) 5 0 d 131 72 LS ST M h := s_get mt_131 dX5_repair_69 f_5_7
theorem e131_72 : Rn X d 131 72 LS ST M h = Rn X d 131 73 LS (.int (zN 3) :: ST) M h := r_iconst mt_131 dX5_repair_72 c_ic3
theorem e131_73 : Rn X d 131 73 LS (.int x :: .ref a :: ST) M h = Rn X d 131 74 LS (.int x :: .ref a :: .int x :: .ref a :: ST) M h := r_dup2 mt_131 dX5_repair_73 rfl rfl
theorem e131_74 : Rn X d 131 74 LS (.int x :: .ref a :: ST) M h = q_ld X (M a) a x d 131 75 LS ST M h := s_iald mt_131 dX5_repair_74
theorem e131_75 : Rn X d 131 75 (l0 :: some (.int x) :: t) ST M h = Rn X d 131 76 (l0 :: some (.int x) :: t) (.int x :: ST) M h := r_iload_n mt_131 dX5_repair_75 rfl
theorem e131_76 : Rn X d 131 76 LS (.int y :: .int x :: ST) M h = Rn X d 131 77 LS (.int (x + y) :: ST) M h := r_iadd mt_131 dX5_repair_76
theorem e131_77 : Rn X d 131 77 LS (.int y :: .int x :: .ref a :: ST) M h = q_st X (M a) a x y d 131 78 LS ST M h := s_iast mt_131 dX5_repair_77
theorem e131_78 : Rn X d 131 78 (some (.ref a) :: t) ST M h = Rn X d 131 79 (some (.ref a) :: t) (.ref a :: ST) M h := r_aload_n mt_131 dX5_repair_78 rfl
theorem e131_79 : Rn X d 131 79 (l0 :: some (.int x) :: t) ST M h = Rn X d 131 80 (l0 :: some (.int x) :: t) (.int x :: ST) M h := r_iload_n mt_131 dX5_repair_79 rfl
theorem e131_80 (hcs : Nat.ble (j_cs ST) 8 = true) : Rn X (d + 1) 131 80 LS (.int x :: .ref a :: ST) M h = j_rc (M a) 5 (q_k X (Rn X d 103 0 [some (.ref a), some (.int x)] [] M (j_h0 h)) h (d + 1) 131 83 LS ST) := s_callV mt_131 dX5_repair_80 cl_5_54 mt_103 rfl rfl (Nat.le_add_left _ _) rfl rfl rfl rfl hcs
theorem e131_83 : Rn X d 131 83 LS ([.int x]) M h = some (.inl (some (.int x)), M, h) := r_iret mt_131 dX5_repair_83 rfl
end
