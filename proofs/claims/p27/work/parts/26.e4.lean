/-! one rule an instruction, printed by wip/p27/gen25.py -/
section
variable {X : jX} {d : Nat} {l0 l1 l2 l3 l4 l5 l6 l7 l8 l9 l10 l11 : Option Value} {LS t : jL} {ST : List Value} {M : jM} {h : jH} {x y z w u : Int32} {a b c e : Nat} {p q : Int64} {f g : UInt64}
theorem e121_0 : Rn X d 121 0 (some (.ref a) :: t) ST M h = Rn X d 121 1 (some (.ref a) :: t) (.ref a :: ST) M h := r_aload_n mt_121 dL_replays_0 rfl
theorem e121_1 : Rn X d 121 1 (l0 :: some (.int x) :: t) ST M h = Rn X d 121 2 (l0 :: some (.int x) :: t) (.int x :: ST) M h := r_iload_n mt_121 dL_replays_1 rfl
theorem e121_2 (hcs : Nat.ble (j_cs ST) 8 = true) : Rn X (d + 1) 121 2 LS (.int x :: .ref a :: ST) M h = q_k X (Rn X d 113 0 [some (.ref a), some (.int x), none] [] M (j_h0 h)) h (d + 1) 121 5 LS ST := s_callS (Or.inr (Or.inl rfl)) mt_121 dL_replays_2 cl_8_92 mt_113 rfl (Nat.le_add_left _ _) rfl rfl rfl rfl hcs
theorem e121_5 (ho : j_one l2 = true) : Rn X d 121 5 (l0 :: l1 :: l2 :: l3 :: t) (.int x :: ST) M h = Rn X d 121 6 (l0 :: l1 :: l2 :: some (.int x) :: t) ST M h := r_istore_n mt_121 dL_replays_5 (by show 3 < _; simp only [List.length_cons]; omega) ho rfl
theorem e121_6 : Rn X d 121 6 (some (.ref a) :: t) ST M h = Rn X d 121 7 (some (.ref a) :: t) (.ref a :: ST) M h := r_aload_n mt_121 dL_replays_6 rfl
theorem e121_7 : Rn X d 121 7 (l0 :: some (.int x) :: t) ST M h = Rn X d 121 8 (l0 :: some (.int x) :: t) (.int x :: ST) M h := r_iload_n mt_121 dL_replays_7 rfl
theorem e121_8 : Rn X d 121 8 LS ST M h = Rn X d 121 9 LS (.int (zN 0) :: ST) M h := r_iconst mt_121 dL_replays_8 c_ic0
theorem e121_9 (hcs : Nat.ble (j_cs ST) 8 = true) : Rn X (d + 1) 121 9 LS (.int y :: .int x :: .ref a :: ST) M h = q_k X (Rn X d 110 0 [some (.ref a), some (.int x), some (.int y), none] [] M (j_h0 h)) h (d + 1) 121 12 LS ST := s_callS (Or.inr (Or.inl rfl)) mt_121 dL_replays_9 cl_8_78 mt_110 rfl (Nat.le_add_left _ _) rfl rfl rfl rfl hcs
theorem e121_12 (ho : j_one l3 = true) : Rn X d 121 12 (l0 :: l1 :: l2 :: l3 :: l4 :: t) (.int x :: ST) M h = Rn X d 121 14 (l0 :: l1 :: l2 :: l3 :: some (.int x) :: t) ST M h := r_istore mt_121 dL_replays_12 (by show 4 < _; simp only [List.length_cons]; omega) ho rfl
theorem e121_14 : Rn X d 121 14 (some (.ref a) :: t) ST M h = Rn X d 121 15 (some (.ref a) :: t) (.ref a :: ST) M h := r_aload_n mt_121 dL_replays_14 rfl
theorem e121_15 : Rn X d 121 15 (l0 :: some (.int x) :: t) ST M h = Rn X d 121 16 (l0 :: some (.int x) :: t) (.int x :: ST) M h := r_iload_n mt_121 dL_replays_15 rfl
theorem e121_16 : Rn X d 121 16 (l0 :: l1 :: some (.int x) :: t) ST M h = Rn X d 121 17 (l0 :: l1 :: some (.int x) :: t) (.int x :: ST) M h := r_iload_n mt_121 dL_replays_16 rfl
theorem e121_17 (hcs : Nat.ble (j_cs ST) 8 = true) : Rn X (d + 1) 121 17 LS (.int y :: .int x :: .ref a :: ST) M h = q_k X (Rn X d 105 0 [some (.ref a), some (.int x), some (.int y), none] [] M (j_h0 h)) h (d + 1) 121 20 LS ST := s_callS (Or.inr (Or.inl rfl)) mt_121 dL_replays_17 cl_8_102 mt_105 rfl (Nat.le_add_left _ _) rfl rfl rfl rfl hcs
theorem e121_20 : Rn X d 121 20 (l0 :: l1 :: l2 :: some (.int x) :: t) ST M h = Rn X d 121 21 (l0 :: l1 :: l2 :: some (.int x) :: t) (.int x :: ST) M h := r_iload_n mt_121 dL_replays_20 rfl
theorem e121_21 : Rn X d 121 21 (l0 :: l1 :: some (.int x) :: t) ST M h = Rn X d 121 22 (l0 :: l1 :: some (.int x) :: t) (.int x :: ST) M h := r_iload_n mt_121 dL_replays_21 rfl
theorem e121_22 (hcs : Nat.ble (j_cs ST) 8 = true) : Rn X (d + 1) 121 22 LS (.int y :: .int x :: ST) M h = q_k X (Rn X d 119 0 [some (.int x), some (.int y)] [] M (j_h0 h)) h (d + 1) 121 25 LS ST := s_callS (Or.inl rfl) mt_121 dL_replays_22 cl_8_81 mt_119 rfl (Nat.le_add_left _ _) rfl rfl rfl rfl hcs
theorem e121_25 : Rn X d 121 25 LS (.int y :: .int x :: ST) M h = q_eq X x y d 121 28 49 LS ST M h := s_icne mt_121 dL_replays_25 rfl
theorem e121_28 : Rn X d 121 28 (some (.ref a) :: t) ST M h = Rn X d 121 29 (some (.ref a) :: t) (.ref a :: ST) M h := r_aload_n mt_121 dL_replays_28 rfl
theorem e121_29 : Rn X d 121 29 (l0 :: some (.int x) :: t) ST M h = Rn X d 121 30 (l0 :: some (.int x) :: t) (.int x :: ST) M h := r_iload_n mt_121 dL_replays_29 rfl
theorem e121_30 : Rn X d 121 30 LS ST M h = Rn X d 121 31 LS (.int (zN 0) :: ST) M h := r_iconst mt_121 dL_replays_30 c_ic0
theorem e121_31 (hcs : Nat.ble (j_cs ST) 8 = true) : Rn X (d + 1) 121 31 LS (.int y :: .int x :: .ref a :: ST) M h = q_k X (Rn X d 110 0 [some (.ref a), some (.int x), some (.int y), none] [] M (j_h0 h)) h (d + 1) 121 34 LS ST := s_callS (Or.inr (Or.inl rfl)) mt_121 dL_replays_31 cl_8_78 mt_110 rfl (Nat.le_add_left _ _) rfl rfl rfl rfl hcs
theorem e121_34 : Rn X d 121 34 (l0 :: l1 :: l2 :: l3 :: some (.int x) :: t) ST M h = Rn X d 121 36 (l0 :: l1 :: l2 :: l3 :: some (.int x) :: t) (.int x :: ST) M h := r_iload mt_121 dL_replays_34 rfl
theorem e121_36 : Rn X d 121 36 (l0 :: l1 :: l2 :: some (.int x) :: t) ST M h = Rn X d 121 37 (l0 :: l1 :: l2 :: some (.int x) :: t) (.int x :: ST) M h := r_iload_n mt_121 dL_replays_36 rfl
theorem e121_37 : Rn X d 121 37 (l0 :: l1 :: some (.int x) :: t) ST M h = Rn X d 121 38 (l0 :: l1 :: some (.int x) :: t) (.int x :: ST) M h := r_iload_n mt_121 dL_replays_37 rfl
theorem e121_38 (hcs : Nat.ble (j_cs ST) 8 = true) : Rn X (d + 1) 121 38 LS (.int y :: .int x :: ST) M h = q_k X (Rn X d 119 0 [some (.int x), some (.int y)] [] M (j_h0 h)) h (d + 1) 121 41 LS ST := s_callS (Or.inl rfl) mt_121 dL_replays_38 cl_8_81 mt_119 rfl (Nat.le_add_left _ _) rfl rfl rfl rfl hcs
theorem e121_41 : Rn X d 121 41 LS (.int y :: .int x :: ST) M h = Rn X d 121 42 LS (.int (x + y) :: ST) M h := r_iadd mt_121 dL_replays_41
theorem e121_42 : Rn X d 121 42 LS (.int y :: .int x :: ST) M h = q_eq X x y d 121 45 49 LS ST M h := s_icne mt_121 dL_replays_42 rfl
theorem e121_45 : Rn X d 121 45 LS ST M h = Rn X d 121 46 LS (.int (zN 1) :: ST) M h := r_iconst mt_121 dL_replays_45 c_ic1
theorem e121_46 : Rn X d 121 46 LS ST M h = Rn X d 121 50 LS ST M h := r_goto mt_121 dL_replays_46 rfl
theorem e121_49 : Rn X d 121 49 LS ST M h = Rn X d 121 50 LS (.int (zN 0) :: ST) M h := r_iconst mt_121 dL_replays_49 c_ic0
theorem e121_50 (ho : j_one l4 = true) : Rn X d 121 50 (l0 :: l1 :: l2 :: l3 :: l4 :: l5 :: t) (.int x :: ST) M h = Rn X d 121 52 (l0 :: l1 :: l2 :: l3 :: l4 :: some (.int x) :: t) ST M h := r_istore mt_121 dL_replays_50 (by show 5 < _; simp only [List.length_cons]; omega) ho rfl
theorem e121_52 : Rn X d 121 52 (some (.ref a) :: t) ST M h = Rn X d 121 53 (some (.ref a) :: t) (.ref a :: ST) M h := r_aload_n mt_121 dL_replays_52 rfl
theorem e121_53 : Rn X d 121 53 (l0 :: some (.int x) :: t) ST M h = Rn X d 121 54 (l0 :: some (.int x) :: t) (.int x :: ST) M h := r_iload_n mt_121 dL_replays_53 rfl
theorem e121_54 : Rn X d 121 54 LS ST M h = Rn X d 121 55 LS (.int (zN 3) :: ST) M h := r_iconst mt_121 dL_replays_54 c_ic3
theorem e121_55 (hcs : Nat.ble (j_cs ST) 8 = true) : Rn X (d + 1) 121 55 LS (.int y :: .int x :: .ref a :: ST) M h = q_k X (Rn X d 110 0 [some (.ref a), some (.int x), some (.int y), none] [] M (j_h0 h)) h (d + 1) 121 58 LS ST := s_callS (Or.inr (Or.inl rfl)) mt_121 dL_replays_55 cl_8_78 mt_110 rfl (Nat.le_add_left _ _) rfl rfl rfl rfl hcs
theorem e121_58 (ho : j_one l5 = true) : Rn X d 121 58 (l0 :: l1 :: l2 :: l3 :: l4 :: l5 :: l6 :: t) (.int x :: ST) M h = Rn X d 121 60 (l0 :: l1 :: l2 :: l3 :: l4 :: l5 :: some (.int x) :: t) ST M h := r_istore mt_121 dL_replays_58 (by show 6 < _; simp only [List.length_cons]; omega) ho rfl
theorem e121_60 : Rn X d 121 60 (some (.ref a) :: t) ST M h = Rn X d 121 61 (some (.ref a) :: t) (.ref a :: ST) M h := r_aload_n mt_121 dL_replays_60 rfl
theorem e121_61 : Rn X d 121 61 (l0 :: some (.int x) :: t) ST M h = Rn X d 121 62 (l0 :: some (.int x) :: t) (.int x :: ST) M h := r_iload_n mt_121 dL_replays_61 rfl
theorem e121_62 : Rn X d 121 62 (l0 :: l1 :: some (.int x) :: t) ST M h = Rn X d 121 63 (l0 :: l1 :: some (.int x) :: t) (.int x :: ST) M h := r_iload_n mt_121 dL_replays_62 rfl
theorem e121_63 : Rn X d 121 63 LS ST M h = Rn X d 121 65 LS (.int (zN 8) :: ST) M h := r_bipush mt_121 dL_replays_63 c_bi8
theorem e121_65 : Rn X d 121 65 LS (.int y :: .int x :: ST) M h = q_rm X x y d 121 66 LS ST M h := s_irem mt_121 dL_replays_65
theorem e121_66 (hcs : Nat.ble (j_cs ST) 8 = true) : Rn X (d + 1) 121 66 LS (.int y :: .int x :: .ref a :: ST) M h = q_k X (Rn X d 111 0 [some (.ref a), some (.int x), some (.int y), none] [] M (j_h0 h)) h (d + 1) 121 69 LS ST := s_callS (Or.inr (Or.inl rfl)) mt_121 dL_replays_66 cl_8_90 mt_111 rfl (Nat.le_add_left _ _) rfl rfl rfl rfl hcs
theorem e121_69 (ho : j_one l6 = true) : Rn X d 121 69 (l0 :: l1 :: l2 :: l3 :: l4 :: l5 :: l6 :: l7 :: t) (.int x :: ST) M h = Rn X d 121 71 (l0 :: l1 :: l2 :: l3 :: l4 :: l5 :: l6 :: some (.int x) :: t) ST M h := r_istore mt_121 dL_replays_69 (by show 7 < _; simp only [List.length_cons]; omega) ho rfl
theorem e121_71 : Rn X d 121 71 (l0 :: l1 :: l2 :: l3 :: l4 :: some (.int x) :: t) ST M h = Rn X d 121 73 (l0 :: l1 :: l2 :: l3 :: l4 :: some (.int x) :: t) (.int x :: ST) M h := r_iload mt_121 dL_replays_71 rfl
theorem e121_73 : Rn X d 121 73 LS (.int x :: ST) M h = q_eq X x (zN 0) d 121 98 76 LS ST M h := s_ifeq mt_121 dL_replays_73 rfl
theorem e121_76 : Rn X d 121 76 (some (.ref a) :: t) ST M h = Rn X d 121 77 (some (.ref a) :: t) (.ref a :: ST) M h := r_aload_n mt_121 dL_replays_76 rfl
theorem e121_77 (hcs : Nat.ble (j_cs ST) 8 = true) : Rn X (d + 1) 121 77 LS (.ref a :: ST) M h = q_k X (Rn X d 118 0 [some (.ref a), none] [] M (j_h0 h)) h (d + 1) 121 80 LS ST := s_callS (Or.inr (Or.inl rfl)) mt_121 dL_replays_77 cl_8_104 mt_118 rfl (Nat.le_add_left _ _) rfl rfl rfl rfl hcs
theorem e121_80 : Rn X d 121 80 LS (.int x :: ST) M h = q_lt X x (zN 0) d 121 98 83 LS ST M h := s_iflt mt_121 dL_replays_80 rfl
theorem e121_83 : Rn X d 121 83 (some (.ref a) :: t) ST M h = Rn X d 121 84 (some (.ref a) :: t) (.ref a :: ST) M h := r_aload_n mt_121 dL_replays_83 rfl
theorem e121_84 : Rn X d 121 84 (l0 :: some (.int x) :: t) ST M h = Rn X d 121 85 (l0 :: some (.int x) :: t) (.int x :: ST) M h := r_iload_n mt_121 dL_replays_84 rfl
theorem e121_85 : Rn X d 121 85 LS ST M h = Rn X d 121 86 LS (.int (zN 0) :: ST) M h := r_iconst mt_121 dL_replays_85 c_ic0
theorem e121_86 (hcs : Nat.ble (j_cs ST) 8 = true) : Rn X (d + 1) 121 86 LS (.int y :: .int x :: .ref a :: ST) M h = q_k X (Rn X d 110 0 [some (.ref a), some (.int x), some (.int y), none] [] M (j_h0 h)) h (d + 1) 121 89 LS ST := s_callS (Or.inr (Or.inl rfl)) mt_121 dL_replays_86 cl_8_78 mt_110 rfl (Nat.le_add_left _ _) rfl rfl rfl rfl hcs
theorem e121_89 : Rn X d 121 89 (l0 :: l1 :: l2 :: l3 :: some (.int x) :: t) ST M h = Rn X d 121 91 (l0 :: l1 :: l2 :: l3 :: some (.int x) :: t) (.int x :: ST) M h := r_iload mt_121 dL_replays_89 rfl
theorem e121_91 : Rn X d 121 91 LS (.int y :: .int x :: ST) M h = q_eq X x y d 121 94 98 LS ST M h := s_icne mt_121 dL_replays_91 rfl
theorem e121_94 : Rn X d 121 94 LS ST M h = Rn X d 121 95 LS (.int (zN 1) :: ST) M h := r_iconst mt_121 dL_replays_94 c_ic1
theorem e121_95 : Rn X d 121 95 LS ST M h = Rn X d 121 99 LS ST M h := r_goto mt_121 dL_replays_95 rfl
theorem e121_98 : Rn X d 121 98 LS ST M h = Rn X d 121 99 LS (.int (zN 0) :: ST) M h := r_iconst mt_121 dL_replays_98 c_ic0
theorem e121_99 (ho : j_one l4 = true) : Rn X d 121 99 (l0 :: l1 :: l2 :: l3 :: l4 :: l5 :: t) (.int x :: ST) M h = Rn X d 121 101 (l0 :: l1 :: l2 :: l3 :: l4 :: some (.int x) :: t) ST M h := r_istore mt_121 dL_replays_99 (by show 5 < _; simp only [List.length_cons]; omega) ho rfl
theorem e121_101 : Rn X d 121 101 LS ST M h = Rn X d 121 102 LS (.int (zN 0) :: ST) M h := r_iconst mt_121 dL_replays_101 c_ic0
theorem e121_102 (ho : j_one l7 = true) : Rn X d 121 102 (l0 :: l1 :: l2 :: l3 :: l4 :: l5 :: l6 :: l7 :: l8 :: t) (.int x :: ST) M h = Rn X d 121 104 (l0 :: l1 :: l2 :: l3 :: l4 :: l5 :: l6 :: l7 :: some (.int x) :: t) ST M h := r_istore mt_121 dL_replays_102 (by show 8 < _; simp only [List.length_cons]; omega) ho rfl
theorem e121_104 : Rn X d 121 104 (l0 :: l1 :: l2 :: l3 :: l4 :: l5 :: l6 :: l7 :: some (.int x) :: t) ST M h = Rn X d 121 106 (l0 :: l1 :: l2 :: l3 :: l4 :: l5 :: l6 :: l7 :: some (.int x) :: t) (.int x :: ST) M h := r_iload mt_121 dL_replays_104 rfl
theorem e121_106 : Rn X d 121 106 (l0 :: l1 :: some (.int x) :: t) ST M h = Rn X d 121 107 (l0 :: l1 :: some (.int x) :: t) (.int x :: ST) M h := r_iload_n mt_121 dL_replays_106 rfl
theorem e121_107 : Rn X d 121 107 LS (.int y :: .int x :: ST) M h = q_le X y x d 121 148 110 LS ST M h := s_icge mt_121 dL_replays_107 rfl
theorem e121_110 : Rn X d 121 110 (l0 :: l1 :: l2 :: l3 :: l4 :: some (.int x) :: t) ST M h = Rn X d 121 112 (l0 :: l1 :: l2 :: l3 :: l4 :: some (.int x) :: t) (.int x :: ST) M h := r_iload mt_121 dL_replays_110 rfl
theorem e121_112 : Rn X d 121 112 LS (.int x :: ST) M h = q_eq X x (zN 0) d 121 148 115 LS ST M h := s_ifeq mt_121 dL_replays_112 rfl
theorem e121_115 : Rn X d 121 115 (some (.ref a) :: t) ST M h = Rn X d 121 116 (some (.ref a) :: t) (.ref a :: ST) M h := r_aload_n mt_121 dL_replays_115 rfl
theorem e121_116 : Rn X d 121 116 (l0 :: some (.int x) :: t) ST M h = Rn X d 121 117 (l0 :: some (.int x) :: t) (.int x :: ST) M h := r_iload_n mt_121 dL_replays_116 rfl
theorem e121_117 : Rn X d 121 117 LS ST M h = Rn X d 121 118 LS (.int (zN 1) :: ST) M h := r_iconst mt_121 dL_replays_117 c_ic1
theorem e121_118 (hcs : Nat.ble (j_cs ST) 8 = true) : Rn X (d + 1) 121 118 LS (.int y :: .int x :: .ref a :: ST) M h = q_k X (Rn X d 105 0 [some (.ref a), some (.int x), some (.int y), none] [] M (j_h0 h)) h (d + 1) 121 121 LS ST := s_callS (Or.inr (Or.inl rfl)) mt_121 dL_replays_118 cl_8_102 mt_105 rfl (Nat.le_add_left _ _) rfl rfl rfl rfl hcs
theorem e121_121 : Rn X d 121 121 (l0 :: l1 :: l2 :: l3 :: l4 :: l5 :: l6 :: l7 :: some (.int x) :: t) ST M h = Rn X d 121 123 (l0 :: l1 :: l2 :: l3 :: l4 :: l5 :: l6 :: l7 :: some (.int x) :: t) (.int x :: ST) M h := r_iload mt_121 dL_replays_121 rfl
theorem e121_123 : Rn X d 121 123 (l0 :: l1 :: l2 :: some (.int x) :: t) ST M h = Rn X d 121 124 (l0 :: l1 :: l2 :: some (.int x) :: t) (.int x :: ST) M h := r_iload_n mt_121 dL_replays_123 rfl
theorem e121_124 : Rn X d 121 124 LS (.int y :: .int x :: ST) M h = q_le X y x d 121 131 127 LS ST M h := s_icge mt_121 dL_replays_124 rfl
theorem e121_127 : Rn X d 121 127 LS ST M h = Rn X d 121 128 LS (.int (zN 1) :: ST) M h := r_iconst mt_121 dL_replays_127 c_ic1
theorem e121_128 : Rn X d 121 128 LS ST M h = Rn X d 121 132 LS ST M h := r_goto mt_121 dL_replays_128 rfl
theorem e121_131 : Rn X d 121 131 LS ST M h = Rn X d 121 132 LS (.int (zN 0) :: ST) M h := r_iconst mt_121 dL_replays_131 c_ic0
theorem e121_132 : Rn X d 121 132 LS (.int y :: .int x :: ST) M h = q_eq X x y d 121 135 139 LS ST M h := s_icne mt_121 dL_replays_132 rfl
theorem e121_135 : Rn X d 121 135 LS ST M h = Rn X d 121 136 LS (.int (zN 1) :: ST) M h := r_iconst mt_121 dL_replays_135 c_ic1
theorem e121_136 : Rn X d 121 136 LS ST M h = Rn X d 121 140 LS ST M h := r_goto mt_121 dL_replays_136 rfl
theorem e121_139 : Rn X d 121 139 LS ST M h = Rn X d 121 140 LS (.int (zN 0) :: ST) M h := r_iconst mt_121 dL_replays_139 c_ic0
theorem e121_140 (ho : j_one l4 = true) : Rn X d 121 140 (l0 :: l1 :: l2 :: l3 :: l4 :: l5 :: t) (.int x :: ST) M h = Rn X d 121 142 (l0 :: l1 :: l2 :: l3 :: l4 :: some (.int x) :: t) ST M h := r_istore mt_121 dL_replays_140 (by show 5 < _; simp only [List.length_cons]; omega) ho rfl
theorem e121_142 (ho : j_one l7 = true) : Rn X d 121 142 (l0 :: l1 :: l2 :: l3 :: l4 :: l5 :: l6 :: l7 :: some (.int x) :: t) ST M h = Rn X d 121 145 (l0 :: l1 :: l2 :: l3 :: l4 :: l5 :: l6 :: l7 :: some (.int (x + (zN 1))) :: t) ST M h := r_iinc mt_121 dL_replays_142 rfl (by simp only [List.length_cons]; omega) ho c_ic1 rfl
theorem e121_145 : Rn X d 121 145 LS ST M h = Rn X d 121 104 LS ST M h := r_goto mt_121 dL_replays_145 rfl
theorem e121_148 : Rn X d 121 148 (l0 :: l1 :: l2 :: l3 :: l4 :: some (.int x) :: t) ST M h = Rn X d 121 150 (l0 :: l1 :: l2 :: l3 :: l4 :: some (.int x) :: t) (.int x :: ST) M h := r_iload mt_121 dL_replays_148 rfl
theorem e121_150 : Rn X d 121 150 LS (.int x :: ST) M h = q_eq X x (zN 0) d 121 182 153 LS ST M h := s_ifeq mt_121 dL_replays_150 rfl
theorem e121_153 : Rn X d 121 153 (some (.ref a) :: t) ST M h = Rn X d 121 154 (some (.ref a) :: t) (.ref a :: ST) M h := r_aload_n mt_121 dL_replays_153 rfl
theorem e121_154 : Rn X d 121 154 (l0 :: some (.int x) :: t) ST M h = Rn X d 121 155 (l0 :: some (.int x) :: t) (.int x :: ST) M h := r_iload_n mt_121 dL_replays_154 rfl
theorem e121_155 : Rn X d 121 155 LS ST M h = Rn X d 121 156 LS (.int (zN 3) :: ST) M h := r_iconst mt_121 dL_replays_155 c_ic3
theorem e121_156 (hcs : Nat.ble (j_cs ST) 8 = true) : Rn X (d + 1) 121 156 LS (.int y :: .int x :: .ref a :: ST) M h = q_k X (Rn X d 110 0 [some (.ref a), some (.int x), some (.int y), none] [] M (j_h0 h)) h (d + 1) 121 159 LS ST := s_callS (Or.inr (Or.inl rfl)) mt_121 dL_replays_156 cl_8_78 mt_110 rfl (Nat.le_add_left _ _) rfl rfl rfl rfl hcs
theorem e121_159 : Rn X d 121 159 (l0 :: l1 :: l2 :: l3 :: l4 :: l5 :: some (.int x) :: t) ST M h = Rn X d 121 161 (l0 :: l1 :: l2 :: l3 :: l4 :: l5 :: some (.int x) :: t) (.int x :: ST) M h := r_iload mt_121 dL_replays_159 rfl
theorem e121_161 : Rn X d 121 161 LS (.int y :: .int x :: ST) M h = q_eq X x y d 121 164 182 LS ST M h := s_icne mt_121 dL_replays_161 rfl
theorem e121_164 : Rn X d 121 164 (some (.ref a) :: t) ST M h = Rn X d 121 165 (some (.ref a) :: t) (.ref a :: ST) M h := r_aload_n mt_121 dL_replays_164 rfl
theorem e121_165 : Rn X d 121 165 (l0 :: some (.int x) :: t) ST M h = Rn X d 121 166 (l0 :: some (.int x) :: t) (.int x :: ST) M h := r_iload_n mt_121 dL_replays_165 rfl
theorem e121_166 : Rn X d 121 166 (l0 :: l1 :: some (.int x) :: t) ST M h = Rn X d 121 167 (l0 :: l1 :: some (.int x) :: t) (.int x :: ST) M h := r_iload_n mt_121 dL_replays_166 rfl
theorem e121_167 : Rn X d 121 167 LS ST M h = Rn X d 121 169 LS (.int (zN 8) :: ST) M h := r_bipush mt_121 dL_replays_167 c_bi8
theorem e121_169 : Rn X d 121 169 LS (.int y :: .int x :: ST) M h = q_rm X x y d 121 170 LS ST M h := s_irem mt_121 dL_replays_169
theorem e121_170 (hcs : Nat.ble (j_cs ST) 8 = true) : Rn X (d + 1) 121 170 LS (.int y :: .int x :: .ref a :: ST) M h = q_k X (Rn X d 111 0 [some (.ref a), some (.int x), some (.int y), none] [] M (j_h0 h)) h (d + 1) 121 173 LS ST := s_callS (Or.inr (Or.inl rfl)) mt_121 dL_replays_170 cl_8_90 mt_111 rfl (Nat.le_add_left _ _) rfl rfl rfl rfl hcs
theorem e121_173 : Rn X d 121 173 (l0 :: l1 :: l2 :: l3 :: l4 :: l5 :: l6 :: some (.int x) :: t) ST M h = Rn X d 121 175 (l0 :: l1 :: l2 :: l3 :: l4 :: l5 :: l6 :: some (.int x) :: t) (.int x :: ST) M h := r_iload mt_121 dL_replays_173 rfl
theorem e121_175 : Rn X d 121 175 LS (.int y :: .int x :: ST) M h = q_eq X x y d 121 178 182 LS ST M h := s_icne mt_121 dL_replays_175 rfl
theorem e121_178 : Rn X d 121 178 LS ST M h = Rn X d 121 179 LS (.int (zN 1) :: ST) M h := r_iconst mt_121 dL_replays_178 c_ic1
theorem e121_179 : Rn X d 121 179 LS ST M h = Rn X d 121 183 LS ST M h := r_goto mt_121 dL_replays_179 rfl
theorem e121_182 : Rn X d 121 182 LS ST M h = Rn X d 121 183 LS (.int (zN 0) :: ST) M h := r_iconst mt_121 dL_replays_182 c_ic0
theorem e121_183 (ho : j_one l4 = true) : Rn X d 121 183 (l0 :: l1 :: l2 :: l3 :: l4 :: l5 :: t) (.int x :: ST) M h = Rn X d 121 185 (l0 :: l1 :: l2 :: l3 :: l4 :: some (.int x) :: t) ST M h := r_istore mt_121 dL_replays_183 (by show 5 < _; simp only [List.length_cons]; omega) ho rfl
theorem e121_185 : Rn X d 121 185 (some (.ref a) :: t) ST M h = Rn X d 121 186 (some (.ref a) :: t) (.ref a :: ST) M h := r_aload_n mt_121 dL_replays_185 rfl
theorem e121_186 : Rn X d 121 186 (l0 :: some (.int x) :: t) ST M h = Rn X d 121 187 (l0 :: some (.int x) :: t) (.int x :: ST) M h := r_iload_n mt_121 dL_replays_186 rfl
theorem e121_187 : Rn X d 121 187 LS ST M h = Rn X d 121 188 LS (.int (zN 0) :: ST) M h := r_iconst mt_121 dL_replays_187 c_ic0
theorem e121_188 (hcs : Nat.ble (j_cs ST) 8 = true) : Rn X (d + 1) 121 188 LS (.int y :: .int x :: .ref a :: ST) M h = q_k X (Rn X d 110 0 [some (.ref a), some (.int x), some (.int y), none] [] M (j_h0 h)) h (d + 1) 121 191 LS ST := s_callS (Or.inr (Or.inl rfl)) mt_121 dL_replays_188 cl_8_78 mt_110 rfl (Nat.le_add_left _ _) rfl rfl rfl rfl hcs
theorem e121_191 : Rn X d 121 191 (some (.ref a) :: t) ST M h = Rn X d 121 192 (some (.ref a) :: t) (.ref a :: ST) M h := r_aload_n mt_121 dL_replays_191 rfl
theorem e121_192 : Rn X d 121 192 (l0 :: some (.int x) :: t) ST M h = Rn X d 121 193 (l0 :: some (.int x) :: t) (.int x :: ST) M h := r_iload_n mt_121 dL_replays_192 rfl
theorem e121_193 : Rn X d 121 193 LS ST M h = Rn X d 121 194 LS (.int (zN 1) :: ST) M h := r_iconst mt_121 dL_replays_193 c_ic1
theorem e121_194 (hcs : Nat.ble (j_cs ST) 8 = true) : Rn X (d + 1) 121 194 LS (.int y :: .int x :: .ref a :: ST) M h = q_k X (Rn X d 110 0 [some (.ref a), some (.int x), some (.int y), none] [] M (j_h0 h)) h (d + 1) 121 197 LS ST := s_callS (Or.inr (Or.inl rfl)) mt_121 dL_replays_194 cl_8_78 mt_110 rfl (Nat.le_add_left _ _) rfl rfl rfl rfl hcs
theorem e121_197 : Rn X d 121 197 LS (.int y :: .int x :: ST) M h = Rn X d 121 198 LS (.int (x - y) :: ST) M h := r_isub mt_121 dL_replays_197
theorem e121_198 (ho : j_one l7 = true) : Rn X d 121 198 (l0 :: l1 :: l2 :: l3 :: l4 :: l5 :: l6 :: l7 :: l8 :: t) (.int x :: ST) M h = Rn X d 121 200 (l0 :: l1 :: l2 :: l3 :: l4 :: l5 :: l6 :: l7 :: some (.int x) :: t) ST M h := r_istore mt_121 dL_replays_198 (by show 8 < _; simp only [List.length_cons]; omega) ho rfl
theorem e121_200 : Rn X d 121 200 (some (.ref a) :: t) ST M h = Rn X d 121 201 (some (.ref a) :: t) (.ref a :: ST) M h := r_aload_n mt_121 dL_replays_200 rfl
theorem e121_201 : Rn X d 121 201 (l0 :: some (.int x) :: t) ST M h = Rn X d 121 202 (l0 :: some (.int x) :: t) (.int x :: ST) M h := r_iload_n mt_121 dL_replays_201 rfl
theorem e121_202 : Rn X d 121 202 LS ST M h = Rn X d 121 203 LS (.int (zN 5) :: ST) M h := r_iconst mt_121 dL_replays_202 c_ic5
theorem e121_203 (hcs : Nat.ble (j_cs ST) 8 = true) : Rn X (d + 1) 121 203 LS (.int y :: .int x :: .ref a :: ST) M h = q_k X (Rn X d 110 0 [some (.ref a), some (.int x), some (.int y), none] [] M (j_h0 h)) h (d + 1) 121 206 LS ST := s_callS (Or.inr (Or.inl rfl)) mt_121 dL_replays_203 cl_8_78 mt_110 rfl (Nat.le_add_left _ _) rfl rfl rfl rfl hcs
theorem e121_206 (ho : j_one l8 = true) : Rn X d 121 206 (l0 :: l1 :: l2 :: l3 :: l4 :: l5 :: l6 :: l7 :: l8 :: l9 :: t) (.int x :: ST) M h = Rn X d 121 208 (l0 :: l1 :: l2 :: l3 :: l4 :: l5 :: l6 :: l7 :: l8 :: some (.int x) :: t) ST M h := r_istore mt_121 dL_replays_206 (by show 9 < _; simp only [List.length_cons]; omega) ho rfl
theorem e121_208 : Rn X d 121 208 (l0 :: l1 :: l2 :: l3 :: l4 :: some (.int x) :: t) ST M h = Rn X d 121 210 (l0 :: l1 :: l2 :: l3 :: l4 :: some (.int x) :: t) (.int x :: ST) M h := r_iload mt_121 dL_replays_208 rfl
theorem e121_210 : Rn X d 121 210 LS (.int x :: ST) M h = q_eq X x (zN 0) d 121 255 213 LS ST M h := s_ifeq mt_121 dL_replays_210 rfl
theorem e121_213 : Rn X d 121 213 (some (.ref a) :: t) ST M h = Rn X d 121 214 (some (.ref a) :: t) (.ref a :: ST) M h := r_aload_n mt_121 dL_replays_213 rfl
theorem e121_214 : Rn X d 121 214 (l0 :: some (.int x) :: t) ST M h = Rn X d 121 215 (l0 :: some (.int x) :: t) (.int x :: ST) M h := r_iload_n mt_121 dL_replays_214 rfl
theorem e121_215 (hcs : Nat.ble (j_cs ST) 8 = true) : Rn X (d + 1) 121 215 LS (.int x :: .ref a :: ST) M h = q_k X (Rn X d 107 0 [some (.ref a), some (.int x), none] [] M (j_h0 h)) h (d + 1) 121 218 LS ST := s_callS (Or.inr (Or.inl rfl)) mt_121 dL_replays_215 cl_8_107 mt_107 rfl (Nat.le_add_left _ _) rfl rfl rfl rfl hcs
theorem e121_218 : Rn X d 121 218 (l0 :: l1 :: l2 :: l3 :: l4 :: l5 :: l6 :: l7 :: some (.int x) :: t) ST M h = Rn X d 121 220 (l0 :: l1 :: l2 :: l3 :: l4 :: l5 :: l6 :: l7 :: some (.int x) :: t) (.int x :: ST) M h := r_iload mt_121 dL_replays_218 rfl
theorem e121_220 : Rn X d 121 220 LS (.int y :: .int x :: ST) M h = q_eq X x y d 121 223 255 LS ST M h := s_icne mt_121 dL_replays_220 rfl
theorem e121_223 : Rn X d 121 223 (some (.ref a) :: t) ST M h = Rn X d 121 224 (some (.ref a) :: t) (.ref a :: ST) M h := r_aload_n mt_121 dL_replays_223 rfl
theorem e121_224 : Rn X d 121 224 (l0 :: some (.int x) :: t) ST M h = Rn X d 121 225 (l0 :: some (.int x) :: t) (.int x :: ST) M h := r_iload_n mt_121 dL_replays_224 rfl
theorem e121_225 : Rn X d 121 225 LS ST M h = Rn X d 121 226 LS (.int (zN 5) :: ST) M h := r_iconst mt_121 dL_replays_225 c_ic5
theorem e121_226 (hcs : Nat.ble (j_cs ST) 8 = true) : Rn X (d + 1) 121 226 LS (.int y :: .int x :: .ref a :: ST) M h = q_k X (Rn X d 110 0 [some (.ref a), some (.int x), some (.int y), none] [] M (j_h0 h)) h (d + 1) 121 229 LS ST := s_callS (Or.inr (Or.inl rfl)) mt_121 dL_replays_226 cl_8_78 mt_110 rfl (Nat.le_add_left _ _) rfl rfl rfl rfl hcs
theorem e121_229 : Rn X d 121 229 (l0 :: l1 :: l2 :: l3 :: l4 :: l5 :: l6 :: l7 :: l8 :: some (.int x) :: t) ST M h = Rn X d 121 231 (l0 :: l1 :: l2 :: l3 :: l4 :: l5 :: l6 :: l7 :: l8 :: some (.int x) :: t) (.int x :: ST) M h := r_iload mt_121 dL_replays_229 rfl
theorem e121_231 : Rn X d 121 231 LS ST M h = Rn X d 121 232 LS (.int (zN 1) :: ST) M h := r_iconst mt_121 dL_replays_231 c_ic1
theorem e121_232 : Rn X d 121 232 LS (.int y :: .int x :: ST) M h = Rn X d 121 233 LS (.int (x + y) :: ST) M h := r_iadd mt_121 dL_replays_232
theorem e121_233 : Rn X d 121 233 LS (.int y :: .int x :: ST) M h = q_eq X x y d 121 236 255 LS ST M h := s_icne mt_121 dL_replays_233 rfl
theorem e121_236 : Rn X d 121 236 (some (.ref a) :: t) ST M h = Rn X d 121 237 (some (.ref a) :: t) (.ref a :: ST) M h := r_aload_n mt_121 dL_replays_236 rfl
theorem e121_237 : Rn X d 121 237 (l0 :: some (.int x) :: t) ST M h = Rn X d 121 238 (l0 :: some (.int x) :: t) (.int x :: ST) M h := r_iload_n mt_121 dL_replays_237 rfl
theorem e121_238 : Rn X d 121 238 LS ST M h = Rn X d 121 239 LS (.int (zN 0) :: ST) M h := r_iconst mt_121 dL_replays_238 c_ic0
theorem e121_239 (hcs : Nat.ble (j_cs ST) 8 = true) : Rn X (d + 1) 121 239 LS (.int y :: .int x :: .ref a :: ST) M h = q_k X (Rn X d 110 0 [some (.ref a), some (.int x), some (.int y), none] [] M (j_h0 h)) h (d + 1) 121 242 LS ST := s_callS (Or.inr (Or.inl rfl)) mt_121 dL_replays_239 cl_8_78 mt_110 rfl (Nat.le_add_left _ _) rfl rfl rfl rfl hcs
theorem e121_242 : Rn X d 121 242 (some (.ref a) :: t) ST M h = Rn X d 121 243 (some (.ref a) :: t) (.ref a :: ST) M h := r_aload_n mt_121 dL_replays_242 rfl
theorem e121_243 : Rn X d 121 243 (l0 :: some (.int x) :: t) ST M h = Rn X d 121 244 (l0 :: some (.int x) :: t) (.int x :: ST) M h := r_iload_n mt_121 dL_replays_243 rfl
theorem e121_244 : Rn X d 121 244 LS ST M h = Rn X d 121 245 LS (.int (zN 1) :: ST) M h := r_iconst mt_121 dL_replays_244 c_ic1
theorem e121_245 (hcs : Nat.ble (j_cs ST) 8 = true) : Rn X (d + 1) 121 245 LS (.int y :: .int x :: .ref a :: ST) M h = q_k X (Rn X d 110 0 [some (.ref a), some (.int x), some (.int y), none] [] M (j_h0 h)) h (d + 1) 121 248 LS ST := s_callS (Or.inr (Or.inl rfl)) mt_121 dL_replays_245 cl_8_78 mt_110 rfl (Nat.le_add_left _ _) rfl rfl rfl rfl hcs
theorem e121_248 : Rn X d 121 248 LS (.int y :: .int x :: ST) M h = q_eq X x y d 121 251 255 LS ST M h := s_icne mt_121 dL_replays_248 rfl
theorem e121_251 : Rn X d 121 251 LS ST M h = Rn X d 121 252 LS (.int (zN 1) :: ST) M h := r_iconst mt_121 dL_replays_251 c_ic1
theorem e121_252 : Rn X d 121 252 LS ST M h = Rn X d 121 256 LS ST M h := r_goto mt_121 dL_replays_252 rfl
theorem e121_255 : Rn X d 121 255 LS ST M h = Rn X d 121 256 LS (.int (zN 0) :: ST) M h := r_iconst mt_121 dL_replays_255 c_ic0
theorem e121_256 (ho : j_one l4 = true) : Rn X d 121 256 (l0 :: l1 :: l2 :: l3 :: l4 :: l5 :: t) (.int x :: ST) M h = Rn X d 121 258 (l0 :: l1 :: l2 :: l3 :: l4 :: some (.int x) :: t) ST M h := r_istore mt_121 dL_replays_256 (by show 5 < _; simp only [List.length_cons]; omega) ho rfl
theorem e121_258 : Rn X d 121 258 (l0 :: l1 :: l2 :: l3 :: l4 :: some (.int x) :: t) ST M h = Rn X d 121 260 (l0 :: l1 :: l2 :: l3 :: l4 :: some (.int x) :: t) (.int x :: ST) M h := r_iload mt_121 dL_replays_258 rfl
theorem e121_260 : Rn X d 121 260 LS (.int x :: ST) M h = q_eq X x (zN 0) d 121 329 263 LS ST M h := s_ifeq mt_121 dL_replays_260 rfl
theorem e121_263 : Rn X d 121 263 (l0 :: l1 :: l2 :: l3 :: l4 :: l5 :: l6 :: l7 :: some (.int x) :: t) ST M h = Rn X d 121 265 (l0 :: l1 :: l2 :: l3 :: l4 :: l5 :: l6 :: l7 :: some (.int x) :: t) (.int x :: ST) M h := r_iload mt_121 dL_replays_263 rfl
theorem e121_265 : Rn X d 121 265 LS (.int x :: ST) M h = q_le X x (zN 0) d 121 329 268 LS ST M h := s_ifle mt_121 dL_replays_265 rfl
theorem e121_268 : Rn X d 121 268 (l0 :: l1 :: l2 :: l3 :: l4 :: l5 :: l6 :: l7 :: some (.int x) :: t) ST M h = Rn X d 121 270 (l0 :: l1 :: l2 :: l3 :: l4 :: l5 :: l6 :: l7 :: some (.int x) :: t) (.int x :: ST) M h := r_iload mt_121 dL_replays_268 rfl
theorem e121_270 : Rn X d 121 270 LS ST M h = Rn X d 121 272 LS (.int (zN 100) :: ST) M h := r_bipush mt_121 dL_replays_270 c_bi100
theorem e121_272 : Rn X d 121 272 LS (.int y :: .int x :: ST) M h = q_le X y x d 121 329 275 LS ST M h := s_icge mt_121 dL_replays_272 rfl
theorem e121_275 : Rn X d 121 275 (some (.ref a) :: t) ST M h = Rn X d 121 276 (some (.ref a) :: t) (.ref a :: ST) M h := r_aload_n mt_121 dL_replays_275 rfl
theorem e121_276 : Rn X d 121 276 (l0 :: some (.int x) :: t) ST M h = Rn X d 121 277 (l0 :: some (.int x) :: t) (.int x :: ST) M h := r_iload_n mt_121 dL_replays_276 rfl
theorem e121_277 (hcs : Nat.ble (j_cs ST) 8 = true) : Rn X (d + 1) 121 277 LS (.int x :: .ref a :: ST) M h = q_k X (Rn X d 113 0 [some (.ref a), some (.int x), none] [] M (j_h0 h)) h (d + 1) 121 280 LS ST := s_callS (Or.inr (Or.inl rfl)) mt_121 dL_replays_277 cl_8_92 mt_113 rfl (Nat.le_add_left _ _) rfl rfl rfl rfl hcs
theorem e121_280 : Rn X d 121 280 (l0 :: l1 :: l2 :: l3 :: l4 :: l5 :: l6 :: l7 :: some (.int x) :: t) ST M h = Rn X d 121 282 (l0 :: l1 :: l2 :: l3 :: l4 :: l5 :: l6 :: l7 :: some (.int x) :: t) (.int x :: ST) M h := r_iload mt_121 dL_replays_280 rfl
theorem e121_282 : Rn X d 121 282 LS (.int y :: .int x :: ST) M h = q_lt X x y d 121 329 285 LS ST M h := s_iclt mt_121 dL_replays_282 rfl
theorem e121_285 : Rn X d 121 285 (some (.ref a) :: t) ST M h = Rn X d 121 286 (some (.ref a) :: t) (.ref a :: ST) M h := r_aload_n mt_121 dL_replays_285 rfl
theorem e121_286 : Rn X d 121 286 (l0 :: some (.int x) :: t) ST M h = Rn X d 121 287 (l0 :: some (.int x) :: t) (.int x :: ST) M h := r_iload_n mt_121 dL_replays_286 rfl
theorem e121_287 : Rn X d 121 287 (l0 :: l1 :: l2 :: l3 :: l4 :: l5 :: l6 :: l7 :: some (.int x) :: t) ST M h = Rn X d 121 289 (l0 :: l1 :: l2 :: l3 :: l4 :: l5 :: l6 :: l7 :: some (.int x) :: t) (.int x :: ST) M h := r_iload mt_121 dL_replays_287 rfl
theorem e121_289 (hcs : Nat.ble (j_cs ST) 8 = true) : Rn X (d + 1) 121 289 LS (.int y :: .int x :: .ref a :: ST) M h = q_k X (Rn X d 105 0 [some (.ref a), some (.int x), some (.int y), none] [] M (j_h0 h)) h (d + 1) 121 292 LS ST := s_callS (Or.inr (Or.inl rfl)) mt_121 dL_replays_289 cl_8_102 mt_105 rfl (Nat.le_add_left _ _) rfl rfl rfl rfl hcs
theorem e121_292 : Rn X d 121 292 (l0 :: l1 :: l2 :: l3 :: l4 :: l5 :: l6 :: l7 :: some (.int x) :: t) ST M h = Rn X d 121 294 (l0 :: l1 :: l2 :: l3 :: l4 :: l5 :: l6 :: l7 :: some (.int x) :: t) (.int x :: ST) M h := r_iload mt_121 dL_replays_292 rfl
theorem e121_294 : Rn X d 121 294 LS (.int y :: .int x :: ST) M h = q_eq X x y d 121 297 326 LS ST M h := s_icne mt_121 dL_replays_294 rfl
theorem e121_297 : Rn X d 121 297 (some (.ref a) :: t) ST M h = Rn X d 121 298 (some (.ref a) :: t) (.ref a :: ST) M h := r_aload_n mt_121 dL_replays_297 rfl
theorem e121_298 : Rn X d 121 298 (l0 :: some (.int x) :: t) ST M h = Rn X d 121 299 (l0 :: some (.int x) :: t) (.int x :: ST) M h := r_iload_n mt_121 dL_replays_298 rfl
theorem e121_299 : Rn X d 121 299 LS ST M h = Rn X d 121 300 LS (.int (zN 3) :: ST) M h := r_iconst mt_121 dL_replays_299 c_ic3
theorem e121_300 (hcs : Nat.ble (j_cs ST) 8 = true) : Rn X (d + 1) 121 300 LS (.int y :: .int x :: .ref a :: ST) M h = q_k X (Rn X d 110 0 [some (.ref a), some (.int x), some (.int y), none] [] M (j_h0 h)) h (d + 1) 121 303 LS ST := s_callS (Or.inr (Or.inl rfl)) mt_121 dL_replays_300 cl_8_78 mt_110 rfl (Nat.le_add_left _ _) rfl rfl rfl rfl hcs
theorem e121_303 : Rn X d 121 303 (l0 :: l1 :: l2 :: l3 :: l4 :: l5 :: some (.int x) :: t) ST M h = Rn X d 121 305 (l0 :: l1 :: l2 :: l3 :: l4 :: l5 :: some (.int x) :: t) (.int x :: ST) M h := r_iload mt_121 dL_replays_303 rfl
theorem e121_305 : Rn X d 121 305 LS (.int y :: .int x :: ST) M h = q_eq X x y d 121 308 326 LS ST M h := s_icne mt_121 dL_replays_305 rfl
theorem e121_308 : Rn X d 121 308 (some (.ref a) :: t) ST M h = Rn X d 121 309 (some (.ref a) :: t) (.ref a :: ST) M h := r_aload_n mt_121 dL_replays_308 rfl
theorem e121_309 : Rn X d 121 309 (l0 :: some (.int x) :: t) ST M h = Rn X d 121 310 (l0 :: some (.int x) :: t) (.int x :: ST) M h := r_iload_n mt_121 dL_replays_309 rfl
theorem e121_310 : Rn X d 121 310 (l0 :: l1 :: some (.int x) :: t) ST M h = Rn X d 121 311 (l0 :: l1 :: some (.int x) :: t) (.int x :: ST) M h := r_iload_n mt_121 dL_replays_310 rfl
theorem e121_311 : Rn X d 121 311 LS ST M h = Rn X d 121 313 LS (.int (zN 8) :: ST) M h := r_bipush mt_121 dL_replays_311 c_bi8
theorem e121_313 : Rn X d 121 313 LS (.int y :: .int x :: ST) M h = q_rm X x y d 121 314 LS ST M h := s_irem mt_121 dL_replays_313
theorem e121_314 (hcs : Nat.ble (j_cs ST) 8 = true) : Rn X (d + 1) 121 314 LS (.int y :: .int x :: .ref a :: ST) M h = q_k X (Rn X d 111 0 [some (.ref a), some (.int x), some (.int y), none] [] M (j_h0 h)) h (d + 1) 121 317 LS ST := s_callS (Or.inr (Or.inl rfl)) mt_121 dL_replays_314 cl_8_90 mt_111 rfl (Nat.le_add_left _ _) rfl rfl rfl rfl hcs
theorem e121_317 : Rn X d 121 317 (l0 :: l1 :: l2 :: l3 :: l4 :: l5 :: l6 :: some (.int x) :: t) ST M h = Rn X d 121 319 (l0 :: l1 :: l2 :: l3 :: l4 :: l5 :: l6 :: some (.int x) :: t) (.int x :: ST) M h := r_iload mt_121 dL_replays_317 rfl
theorem e121_319 : Rn X d 121 319 LS (.int y :: .int x :: ST) M h = q_eq X x y d 121 322 326 LS ST M h := s_icne mt_121 dL_replays_319 rfl
theorem e121_322 : Rn X d 121 322 LS ST M h = Rn X d 121 323 LS (.int (zN 1) :: ST) M h := r_iconst mt_121 dL_replays_322 c_ic1
theorem e121_323 : Rn X d 121 323 LS ST M h = Rn X d 121 327 LS ST M h := r_goto mt_121 dL_replays_323 rfl
theorem e121_326 : Rn X d 121 326 LS ST M h = Rn X d 121 327 LS (.int (zN 0) :: ST) M h := r_iconst mt_121 dL_replays_326 c_ic0
theorem e121_327 (ho : j_one l4 = true) : Rn X d 121 327 (l0 :: l1 :: l2 :: l3 :: l4 :: l5 :: t) (.int x :: ST) M h = Rn X d 121 329 (l0 :: l1 :: l2 :: l3 :: l4 :: some (.int x) :: t) ST M h := r_istore mt_121 dL_replays_327 (by show 5 < _; simp only [List.length_cons]; omega) ho rfl
theorem e121_329 : Rn X d 121 329 (l0 :: l1 :: l2 :: l3 :: l4 :: some (.int x) :: t) ST M h = Rn X d 121 331 (l0 :: l1 :: l2 :: l3 :: l4 :: some (.int x) :: t) (.int x :: ST) M h := r_iload mt_121 dL_replays_329 rfl
theorem e121_331 {v : Nat} (h0 : v < 2) : Rn X d 121 331 LS ([.int (zN v)]) M h = some (.inl (some (.int (zN v))), M, h) := s_zret mt_121 dL_replays_331 rfl h0
theorem e122_0 : Rn X d 122 0 (some (.ref a) :: t) ST M h = Rn X d 122 1 (some (.ref a) :: t) (.ref a :: ST) M h := r_aload_n mt_122 dL_snaps_0 rfl
theorem e122_1 : Rn X d 122 1 LS ST M h = Rn X d 122 2 LS (.int (zN 1) :: ST) M h := r_iconst mt_122 dL_snaps_1 c_ic1
theorem e122_2 (hcs : Nat.ble (j_cs ST) 8 = true) : Rn X (d + 1) 122 2 LS (.int x :: .ref a :: ST) M h = q_k X (Rn X d 112 0 [some (.ref a), some (.int x), none] [] M (j_h0 h)) h (d + 1) 122 5 LS ST := s_callS (Or.inr (Or.inl rfl)) mt_122 dL_snaps_2 cl_8_73 mt_112 rfl (Nat.le_add_left _ _) rfl rfl rfl rfl hcs
theorem e122_5 (ho : j_one l1 = true) : Rn X d 122 5 (l0 :: l1 :: l2 :: t) (.int x :: ST) M h = Rn X d 122 6 (l0 :: l1 :: some (.int x) :: t) ST M h := r_istore_n mt_122 dL_snaps_5 (by show 2 < _; simp only [List.length_cons]; omega) ho rfl
theorem e122_6 : Rn X d 122 6 (some (.ref a) :: t) ST M h = Rn X d 122 7 (some (.ref a) :: t) (.ref a :: ST) M h := r_aload_n mt_122 dL_snaps_6 rfl
theorem e122_7 : Rn X d 122 7 (l0 :: some (.int x) :: t) ST M h = Rn X d 122 8 (l0 :: some (.int x) :: t) (.int x :: ST) M h := r_iload_n mt_122 dL_snaps_7 rfl
theorem e122_8 (hcs : Nat.ble (j_cs ST) 8 = true) : Rn X (d + 1) 122 8 LS (.int x :: .ref a :: ST) M h = q_k X (Rn X d 116 0 [some (.ref a), some (.int x), none] [] M (j_h0 h)) h (d + 1) 122 11 LS ST := s_callS (Or.inr (Or.inl rfl)) mt_122 dL_snaps_8 cl_8_94 mt_116 rfl (Nat.le_add_left _ _) rfl rfl rfl rfl hcs
theorem e122_11 (ho : j_one l2 = true) : Rn X d 122 11 (l0 :: l1 :: l2 :: l3 :: t) (.int x :: ST) M h = Rn X d 122 12 (l0 :: l1 :: l2 :: some (.int x) :: t) ST M h := r_istore_n mt_122 dL_snaps_11 (by show 3 < _; simp only [List.length_cons]; omega) ho rfl
theorem e122_12 : Rn X d 122 12 (some (.ref a) :: t) ST M h = Rn X d 122 13 (some (.ref a) :: t) (.ref a :: ST) M h := r_aload_n mt_122 dL_snaps_12 rfl
theorem e122_13 : Rn X d 122 13 (l0 :: some (.int x) :: t) ST M h = Rn X d 122 14 (l0 :: some (.int x) :: t) (.int x :: ST) M h := r_iload_n mt_122 dL_snaps_13 rfl
theorem e122_14 (hcs : Nat.ble (j_cs ST) 8 = true) : Rn X (d + 1) 122 14 LS (.int x :: .ref a :: ST) M h = q_k X (Rn X d 106 0 [some (.ref a), some (.int x), none] [] M (j_h0 h)) h (d + 1) 122 17 LS ST := s_callS (Or.inr (Or.inl rfl)) mt_122 dL_snaps_14 cl_8_109 mt_106 rfl (Nat.le_add_left _ _) rfl rfl rfl rfl hcs
theorem e122_17 (ho : j_one l3 = true) : Rn X d 122 17 (l0 :: l1 :: l2 :: l3 :: l4 :: t) (.int x :: ST) M h = Rn X d 122 19 (l0 :: l1 :: l2 :: l3 :: some (.int x) :: t) ST M h := r_istore mt_122 dL_snaps_17 (by show 4 < _; simp only [List.length_cons]; omega) ho rfl
theorem e122_19 : Rn X d 122 19 (some (.ref a) :: t) ST M h = Rn X d 122 20 (some (.ref a) :: t) (.ref a :: ST) M h := r_aload_n mt_122 dL_snaps_19 rfl
theorem e122_20 : Rn X d 122 20 (l0 :: some (.int x) :: t) ST M h = Rn X d 122 21 (l0 :: some (.int x) :: t) (.int x :: ST) M h := r_iload_n mt_122 dL_snaps_20 rfl
theorem e122_21 : Rn X d 122 21 LS ST M h = Rn X d 122 22 LS (.int (zN 2) :: ST) M h := r_iconst mt_122 dL_snaps_21 c_ic2
theorem e122_22 (hcs : Nat.ble (j_cs ST) 8 = true) : Rn X (d + 1) 122 22 LS (.int y :: .int x :: .ref a :: ST) M h = q_k X (Rn X d 110 0 [some (.ref a), some (.int x), some (.int y), none] [] M (j_h0 h)) h (d + 1) 122 25 LS ST := s_callS (Or.inr (Or.inl rfl)) mt_122 dL_snaps_22 cl_8_78 mt_110 rfl (Nat.le_add_left _ _) rfl rfl rfl rfl hcs
theorem e122_25 : Rn X d 122 25 LS (.int x :: ST) M h = q_eq X x (zN 0) d 122 28 50 LS ST M h := s_ifne mt_122 dL_snaps_25 rfl
theorem e122_28 : Rn X d 122 28 (l0 :: l1 :: l2 :: l3 :: some (.int x) :: t) ST M h = Rn X d 122 30 (l0 :: l1 :: l2 :: l3 :: some (.int x) :: t) (.int x :: ST) M h := r_iload mt_122 dL_snaps_28 rfl
theorem e122_30 : Rn X d 122 30 LS ST M h = Rn X d 122 32 LS (.int (zM 11) :: ST) M h := r_bipush mt_122 dL_snaps_30 c_bim12
theorem e122_32 : Rn X d 122 32 LS (.int y :: .int x :: ST) M h = q_eq X x y d 122 35 48 LS ST M h := s_icne mt_122 dL_snaps_32 rfl
theorem e122_35 : Rn X d 122 35 (some (.ref a) :: t) ST M h = Rn X d 122 36 (some (.ref a) :: t) (.ref a :: ST) M h := r_aload_n mt_122 dL_snaps_35 rfl
theorem e122_36 : Rn X d 122 36 LS ST M h = Rn X d 122 37 LS (.int (zN 1) :: ST) M h := r_iconst mt_122 dL_snaps_36 c_ic1
theorem e122_37 (hcs : Nat.ble (j_cs ST) 8 = true) : Rn X (d + 1) 122 37 LS (.int x :: .ref a :: ST) M h = q_k X (Rn X d 112 0 [some (.ref a), some (.int x), none] [] M (j_h0 h)) h (d + 1) 122 40 LS ST := s_callS (Or.inr (Or.inl rfl)) mt_122 dL_snaps_37 cl_8_73 mt_112 rfl (Nat.le_add_left _ _) rfl rfl rfl rfl hcs
theorem e122_40 : Rn X d 122 40 (l0 :: l1 :: some (.int x) :: t) ST M h = Rn X d 122 41 (l0 :: l1 :: some (.int x) :: t) (.int x :: ST) M h := r_iload_n mt_122 dL_snaps_40 rfl
theorem e122_41 : Rn X d 122 41 LS (.int y :: .int x :: ST) M h = q_eq X x y d 122 44 48 LS ST M h := s_icne mt_122 dL_snaps_41 rfl
theorem e122_44 : Rn X d 122 44 LS ST M h = Rn X d 122 45 LS (.int (zN 1) :: ST) M h := r_iconst mt_122 dL_snaps_44 c_ic1
theorem e122_45 : Rn X d 122 45 LS ST M h = Rn X d 122 49 LS ST M h := r_goto mt_122 dL_snaps_45 rfl
theorem e122_48 : Rn X d 122 48 LS ST M h = Rn X d 122 49 LS (.int (zN 0) :: ST) M h := r_iconst mt_122 dL_snaps_48 c_ic0
theorem e122_49 {v : Nat} (h0 : v < 2) : Rn X d 122 49 LS ([.int (zN v)]) M h = some (.inl (some (.int (zN v))), M, h) := s_zret mt_122 dL_snaps_49 rfl h0
theorem e122_50 : Rn X d 122 50 (l0 :: l1 :: l2 :: l3 :: some (.int x) :: t) ST M h = Rn X d 122 52 (l0 :: l1 :: l2 :: l3 :: some (.int x) :: t) (.int x :: ST) M h := r_iload mt_122 dL_snaps_50 rfl
theorem e122_52 : Rn X d 122 52 (some (.ref a) :: t) ST M h = Rn X d 122 53 (some (.ref a) :: t) (.ref a :: ST) M h := r_aload_n mt_122 dL_snaps_52 rfl
theorem e122_53 : Rn X d 122 53 LS ST M h = Rn X d 122 54 LS (.int (zN 1) :: ST) M h := r_iconst mt_122 dL_snaps_53 c_ic1
theorem e122_54 (hcs : Nat.ble (j_cs ST) 8 = true) : Rn X (d + 1) 122 54 LS (.int x :: .ref a :: ST) M h = q_k X (Rn X d 112 0 [some (.ref a), some (.int x), none] [] M (j_h0 h)) h (d + 1) 122 57 LS ST := s_callS (Or.inr (Or.inl rfl)) mt_122 dL_snaps_54 cl_8_73 mt_112 rfl (Nat.le_add_left _ _) rfl rfl rfl rfl hcs
theorem e122_57 : Rn X d 122 57 (l0 :: l1 :: some (.int x) :: t) ST M h = Rn X d 122 58 (l0 :: l1 :: some (.int x) :: t) (.int x :: ST) M h := r_iload_n mt_122 dL_snaps_57 rfl
theorem e122_58 : Rn X d 122 58 LS (.int y :: .int x :: ST) M h = Rn X d 122 59 LS (.int (x - y) :: ST) M h := r_isub mt_122 dL_snaps_58
theorem e122_59 : Rn X d 122 59 LS (.int y :: .int x :: ST) M h = q_eq X x y d 122 62 101 LS ST M h := s_icne mt_122 dL_snaps_59 rfl
theorem e122_62 : Rn X d 122 62 (l0 :: l1 :: l2 :: l3 :: some (.int x) :: t) ST M h = Rn X d 122 64 (l0 :: l1 :: l2 :: l3 :: some (.int x) :: t) (.int x :: ST) M h := r_iload mt_122 dL_snaps_62 rfl
theorem e122_64 : Rn X d 122 64 LS (.int x :: ST) M h = q_lt X x (zN 0) d 122 101 67 LS ST M h := s_iflt mt_122 dL_snaps_64 rfl
theorem e122_67 : Rn X d 122 67 (some (.ref a) :: t) ST M h = Rn X d 122 68 (some (.ref a) :: t) (.ref a :: ST) M h := r_aload_n mt_122 dL_snaps_67 rfl
theorem e122_68 : Rn X d 122 68 (l0 :: some (.int x) :: t) ST M h = Rn X d 122 69 (l0 :: some (.int x) :: t) (.int x :: ST) M h := r_iload_n mt_122 dL_snaps_68 rfl
theorem e122_69 : Rn X d 122 69 LS ST M h = Rn X d 122 70 LS (.int (zN 1) :: ST) M h := r_iconst mt_122 dL_snaps_69 c_ic1
theorem e122_70 (hcs : Nat.ble (j_cs ST) 8 = true) : Rn X (d + 1) 122 70 LS (.int y :: .int x :: .ref a :: ST) M h = q_k X (Rn X d 110 0 [some (.ref a), some (.int x), some (.int y), none] [] M (j_h0 h)) h (d + 1) 122 73 LS ST := s_callS (Or.inr (Or.inl rfl)) mt_122 dL_snaps_70 cl_8_78 mt_110 rfl (Nat.le_add_left _ _) rfl rfl rfl rfl hcs
theorem e122_73 : Rn X d 122 73 (some (.ref a) :: t) ST M h = Rn X d 122 74 (some (.ref a) :: t) (.ref a :: ST) M h := r_aload_n mt_122 dL_snaps_73 rfl
theorem e122_74 : Rn X d 122 74 (l0 :: some (.int x) :: t) ST M h = Rn X d 122 75 (l0 :: some (.int x) :: t) (.int x :: ST) M h := r_iload_n mt_122 dL_snaps_74 rfl
theorem e122_75 : Rn X d 122 75 LS ST M h = Rn X d 122 76 LS (.int (zN 0) :: ST) M h := r_iconst mt_122 dL_snaps_75 c_ic0
theorem e122_76 (hcs : Nat.ble (j_cs ST) 8 = true) : Rn X (d + 1) 122 76 LS (.int y :: .int x :: .ref a :: ST) M h = q_k X (Rn X d 110 0 [some (.ref a), some (.int x), some (.int y), none] [] M (j_h0 h)) h (d + 1) 122 79 LS ST := s_callS (Or.inr (Or.inl rfl)) mt_122 dL_snaps_76 cl_8_78 mt_110 rfl (Nat.le_add_left _ _) rfl rfl rfl rfl hcs
theorem e122_79 : Rn X d 122 79 LS (.int y :: .int x :: ST) M h = q_eq X x y d 122 82 101 LS ST M h := s_icne mt_122 dL_snaps_79 rfl
theorem e122_82 : Rn X d 122 82 (some (.ref a) :: t) ST M h = Rn X d 122 83 (some (.ref a) :: t) (.ref a :: ST) M h := r_aload_n mt_122 dL_snaps_82 rfl
theorem e122_83 : Rn X d 122 83 LS ST M h = Rn X d 122 84 LS (.int (zN 0) :: ST) M h := r_iconst mt_122 dL_snaps_83 c_ic0
theorem e122_84 (hcs : Nat.ble (j_cs ST) 8 = true) : Rn X (d + 1) 122 84 LS (.int x :: .ref a :: ST) M h = q_k X (Rn X d 112 0 [some (.ref a), some (.int x), none] [] M (j_h0 h)) h (d + 1) 122 87 LS ST := s_callS (Or.inr (Or.inl rfl)) mt_122 dL_snaps_84 cl_8_73 mt_112 rfl (Nat.le_add_left _ _) rfl rfl rfl rfl hcs
theorem e122_87 : Rn X d 122 87 (some (.ref a) :: t) ST M h = Rn X d 122 88 (some (.ref a) :: t) (.ref a :: ST) M h := r_aload_n mt_122 dL_snaps_87 rfl
theorem e122_88 : Rn X d 122 88 LS ST M h = Rn X d 122 89 LS (.int (zN 3) :: ST) M h := r_iconst mt_122 dL_snaps_88 c_ic3
theorem e122_89 (hcs : Nat.ble (j_cs ST) 8 = true) : Rn X (d + 1) 122 89 LS (.int x :: .ref a :: ST) M h = q_k X (Rn X d 112 0 [some (.ref a), some (.int x), none] [] M (j_h0 h)) h (d + 1) 122 92 LS ST := s_callS (Or.inr (Or.inl rfl)) mt_122 dL_snaps_89 cl_8_73 mt_112 rfl (Nat.le_add_left _ _) rfl rfl rfl rfl hcs
theorem e122_92 : Rn X d 122 92 LS (.int y :: .int x :: ST) M h = Rn X d 122 93 LS (.int (x - y) :: ST) M h := r_isub mt_122 dL_snaps_92
theorem e122_93 : Rn X d 122 93 (l0 :: l1 :: l2 :: some (.int x) :: t) ST M h = Rn X d 122 94 (l0 :: l1 :: l2 :: some (.int x) :: t) (.int x :: ST) M h := r_iload_n mt_122 dL_snaps_93 rfl
theorem e122_94 : Rn X d 122 94 LS (.int y :: .int x :: ST) M h = q_eq X x y d 122 97 101 LS ST M h := s_icne mt_122 dL_snaps_94 rfl
theorem e122_97 : Rn X d 122 97 LS ST M h = Rn X d 122 98 LS (.int (zN 1) :: ST) M h := r_iconst mt_122 dL_snaps_97 c_ic1
theorem e122_98 : Rn X d 122 98 LS ST M h = Rn X d 122 102 LS ST M h := r_goto mt_122 dL_snaps_98 rfl
theorem e122_101 : Rn X d 122 101 LS ST M h = Rn X d 122 102 LS (.int (zN 0) :: ST) M h := r_iconst mt_122 dL_snaps_101 c_ic0
theorem e122_102 {v : Nat} (h0 : v < 2) : Rn X d 122 102 LS ([.int (zN v)]) M h = some (.inl (some (.int (zN v))), M, h) := s_zret mt_122 dL_snaps_102 rfl h0
theorem e123_0 : Rn X d 123 0 (some (.ref a) :: t) ST M h = Rn X d 123 1 (some (.ref a) :: t) (.ref a :: ST) M h := r_aload_n mt_123 dL_links_0 rfl
theorem e123_1 : Rn X d 123 1 (l0 :: some (.int x) :: t) ST M h = Rn X d 123 2 (l0 :: some (.int x) :: t) (.int x :: ST) M h := r_iload_n mt_123 dL_links_1 rfl
theorem e123_2 : Rn X d 123 2 LS ST M h = Rn X d 123 3 LS (.int (zN 2) :: ST) M h := r_iconst mt_123 dL_links_2 c_ic2
theorem e123_3 (hcs : Nat.ble (j_cs ST) 8 = true) : Rn X (d + 1) 123 3 LS (.int y :: .int x :: .ref a :: ST) M h = q_k X (Rn X d 110 0 [some (.ref a), some (.int x), some (.int y), none] [] M (j_h0 h)) h (d + 1) 123 6 LS ST := s_callS (Or.inr (Or.inl rfl)) mt_123 dL_links_3 cl_8_78 mt_110 rfl (Nat.le_add_left _ _) rfl rfl rfl rfl hcs
theorem e123_6 : Rn X d 123 6 LS ST M h = Rn X d 123 7 LS (.int (zN 1) :: ST) M h := r_iconst mt_123 dL_links_6 c_ic1
theorem e123_7 : Rn X d 123 7 LS (.int y :: .int x :: ST) M h = q_eq X x y d 123 10 14 LS ST M h := s_icne mt_123 dL_links_7 rfl
theorem e123_10 : Rn X d 123 10 LS ST M h = Rn X d 123 11 LS (.int (zN 1) :: ST) M h := r_iconst mt_123 dL_links_10 c_ic1
theorem e123_11 : Rn X d 123 11 LS ST M h = Rn X d 123 15 LS ST M h := r_goto mt_123 dL_links_11 rfl
theorem e123_14 : Rn X d 123 14 LS ST M h = Rn X d 123 15 LS (.int (zN 0) :: ST) M h := r_iconst mt_123 dL_links_14 c_ic0
theorem e123_15 (ho : j_one l1 = true) : Rn X d 123 15 (l0 :: l1 :: l2 :: t) (.int x :: ST) M h = Rn X d 123 16 (l0 :: l1 :: some (.int x) :: t) ST M h := r_istore_n mt_123 dL_links_15 (by show 2 < _; simp only [List.length_cons]; omega) ho rfl
theorem e123_16 : Rn X d 123 16 (some (.ref a) :: t) ST M h = Rn X d 123 17 (some (.ref a) :: t) (.ref a :: ST) M h := r_aload_n mt_123 dL_links_16 rfl
theorem e123_17 : Rn X d 123 17 (l0 :: some (.int x) :: t) ST M h = Rn X d 123 18 (l0 :: some (.int x) :: t) (.int x :: ST) M h := r_iload_n mt_123 dL_links_17 rfl
theorem e123_18 : Rn X d 123 18 (l0 :: l1 :: some (.int x) :: t) ST M h = Rn X d 123 19 (l0 :: l1 :: some (.int x) :: t) (.int x :: ST) M h := r_iload_n mt_123 dL_links_18 rfl
theorem e123_19 (hcs : Nat.ble (j_cs ST) 8 = true) : Rn X (d + 1) 123 19 LS (.int y :: .int x :: .ref a :: ST) M h = q_k X (Rn X d 108 0 [some (.ref a), some (.int x), some (.int y), none] [] M (j_h0 h)) h (d + 1) 123 22 LS ST := s_callS (Or.inr (Or.inl rfl)) mt_123 dL_links_19 cl_8_111 mt_108 rfl (Nat.le_add_left _ _) rfl rfl rfl rfl hcs
theorem e123_22 : Rn X d 123 22 LS ST M h = Rn X d 123 24 LS (.int (zM 11) :: ST) M h := r_bipush mt_123 dL_links_22 c_bim12
theorem e123_24 : Rn X d 123 24 LS (.int y :: .int x :: ST) M h = q_eq X x y d 123 27 79 LS ST M h := s_icne mt_123 dL_links_24 rfl
theorem e123_27 : Rn X d 123 27 (some (.ref a) :: t) ST M h = Rn X d 123 28 (some (.ref a) :: t) (.ref a :: ST) M h := r_aload_n mt_123 dL_links_27 rfl
theorem e123_28 : Rn X d 123 28 (l0 :: some (.int x) :: t) ST M h = Rn X d 123 29 (l0 :: some (.int x) :: t) (.int x :: ST) M h := r_iload_n mt_123 dL_links_28 rfl
theorem e123_29 : Rn X d 123 29 (l0 :: l1 :: some (.int x) :: t) ST M h = Rn X d 123 30 (l0 :: l1 :: some (.int x) :: t) (.int x :: ST) M h := r_iload_n mt_123 dL_links_29 rfl
theorem e123_30 : Rn X d 123 30 LS (.int x :: ST) M h = q_eq X x (zN 0) d 123 33 37 LS ST M h := s_ifne mt_123 dL_links_30 rfl
theorem e123_33 : Rn X d 123 33 LS ST M h = Rn X d 123 34 LS (.int (zN 1) :: ST) M h := r_iconst mt_123 dL_links_33 c_ic1
theorem e123_34 : Rn X d 123 34 LS ST M h = Rn X d 123 38 LS ST M h := r_goto mt_123 dL_links_34 rfl
theorem e123_37 : Rn X d 123 37 LS ST M h = Rn X d 123 38 LS (.int (zN 0) :: ST) M h := r_iconst mt_123 dL_links_37 c_ic0
theorem e123_38 (hcs : Nat.ble (j_cs ST) 8 = true) : Rn X (d + 1) 123 38 LS (.int y :: .int x :: .ref a :: ST) M h = q_k X (Rn X d 108 0 [some (.ref a), some (.int x), some (.int y), none] [] M (j_h0 h)) h (d + 1) 123 41 LS ST := s_callS (Or.inr (Or.inl rfl)) mt_123 dL_links_38 cl_8_111 mt_108 rfl (Nat.le_add_left _ _) rfl rfl rfl rfl hcs
theorem e123_41 : Rn X d 123 41 (some (.ref a) :: t) ST M h = Rn X d 123 42 (some (.ref a) :: t) (.ref a :: ST) M h := r_aload_n mt_123 dL_links_41 rfl
theorem e123_42 : Rn X d 123 42 LS ST M h = Rn X d 123 43 LS (.int (zN 0) :: ST) M h := r_iconst mt_123 dL_links_42 c_ic0
theorem e123_43 : Rn X d 123 43 LS ST M h = Rn X d 123 44 LS (.int (zN 2) :: ST) M h := r_iconst mt_123 dL_links_43 c_ic2
theorem e123_44 (hcs : Nat.ble (j_cs ST) 8 = true) : Rn X (d + 1) 123 44 LS (.int y :: .int x :: .ref a :: ST) M h = q_k X (Rn X d 110 0 [some (.ref a), some (.int x), some (.int y), none] [] M (j_h0 h)) h (d + 1) 123 47 LS ST := s_callS (Or.inr (Or.inl rfl)) mt_123 dL_links_44 cl_8_78 mt_110 rfl (Nat.le_add_left _ _) rfl rfl rfl rfl hcs
theorem e123_47 : Rn X d 123 47 (some (.ref a) :: t) ST M h = Rn X d 123 48 (some (.ref a) :: t) (.ref a :: ST) M h := r_aload_n mt_123 dL_links_47 rfl
theorem e123_48 : Rn X d 123 48 LS ST M h = Rn X d 123 49 LS (.int (zN 1) :: ST) M h := r_iconst mt_123 dL_links_48 c_ic1
theorem e123_49 : Rn X d 123 49 LS ST M h = Rn X d 123 50 LS (.int (zN 2) :: ST) M h := r_iconst mt_123 dL_links_49 c_ic2
theorem e123_50 (hcs : Nat.ble (j_cs ST) 8 = true) : Rn X (d + 1) 123 50 LS (.int y :: .int x :: .ref a :: ST) M h = q_k X (Rn X d 110 0 [some (.ref a), some (.int x), some (.int y), none] [] M (j_h0 h)) h (d + 1) 123 53 LS ST := s_callS (Or.inr (Or.inl rfl)) mt_123 dL_links_50 cl_8_78 mt_110 rfl (Nat.le_add_left _ _) rfl rfl rfl rfl hcs
theorem e123_53 : Rn X d 123 53 LS (.int y :: .int x :: ST) M h = Rn X d 123 54 LS (.int (x + y) :: ST) M h := r_iadd mt_123 dL_links_53
theorem e123_54 : Rn X d 123 54 LS (.int y :: .int x :: ST) M h = q_eq X x y d 123 57 79 LS ST M h := s_icne mt_123 dL_links_54 rfl
theorem e123_57 : Rn X d 123 57 (some (.ref a) :: t) ST M h = Rn X d 123 58 (some (.ref a) :: t) (.ref a :: ST) M h := r_aload_n mt_123 dL_links_57 rfl
theorem e123_58 : Rn X d 123 58 (l0 :: some (.int x) :: t) ST M h = Rn X d 123 59 (l0 :: some (.int x) :: t) (.int x :: ST) M h := r_iload_n mt_123 dL_links_58 rfl
theorem e123_59 : Rn X d 123 59 LS ST M h = Rn X d 123 60 LS (.int (zN 2) :: ST) M h := r_iconst mt_123 dL_links_59 c_ic2
theorem e123_60 (hcs : Nat.ble (j_cs ST) 8 = true) : Rn X (d + 1) 123 60 LS (.int y :: .int x :: .ref a :: ST) M h = q_k X (Rn X d 110 0 [some (.ref a), some (.int x), some (.int y), none] [] M (j_h0 h)) h (d + 1) 123 63 LS ST := s_callS (Or.inr (Or.inl rfl)) mt_123 dL_links_60 cl_8_78 mt_110 rfl (Nat.le_add_left _ _) rfl rfl rfl rfl hcs
theorem e123_63 : Rn X d 123 63 (l0 :: l1 :: some (.int x) :: t) ST M h = Rn X d 123 64 (l0 :: l1 :: some (.int x) :: t) (.int x :: ST) M h := r_iload_n mt_123 dL_links_63 rfl
theorem e123_64 : Rn X d 123 64 LS (.int x :: ST) M h = q_eq X x (zN 0) d 123 71 67 LS ST M h := s_ifeq mt_123 dL_links_64 rfl
theorem e123_67 : Rn X d 123 67 LS ST M h = Rn X d 123 68 LS (.int (zN 0) :: ST) M h := r_iconst mt_123 dL_links_67 c_ic0
theorem e123_68 : Rn X d 123 68 LS ST M h = Rn X d 123 72 LS ST M h := r_goto mt_123 dL_links_68 rfl
theorem e123_71 : Rn X d 123 71 LS ST M h = Rn X d 123 72 LS (.int (zN 1) :: ST) M h := r_iconst mt_123 dL_links_71 c_ic1
theorem e123_72 : Rn X d 123 72 LS (.int y :: .int x :: ST) M h = q_eq X x y d 123 75 79 LS ST M h := s_icne mt_123 dL_links_72 rfl
theorem e123_75 : Rn X d 123 75 LS ST M h = Rn X d 123 76 LS (.int (zN 1) :: ST) M h := r_iconst mt_123 dL_links_75 c_ic1
theorem e123_76 : Rn X d 123 76 LS ST M h = Rn X d 123 80 LS ST M h := r_goto mt_123 dL_links_76 rfl
theorem e123_79 : Rn X d 123 79 LS ST M h = Rn X d 123 80 LS (.int (zN 0) :: ST) M h := r_iconst mt_123 dL_links_79 c_ic0
theorem e123_80 {v : Nat} (h0 : v < 2) : Rn X d 123 80 LS ([.int (zN v)]) M h = some (.inl (some (.int (zN v))), M, h) := s_zret mt_123 dL_links_80 rfl h0
theorem e124_0 : Rn X d 124 0 (some (.ref a) :: t) ST M h = Rn X d 124 1 (some (.ref a) :: t) (.ref a :: ST) M h := r_aload_n mt_124 dL_carries_0 rfl
theorem e124_1 (hcs : Nat.ble (j_cs ST) 8 = true) : Rn X (d + 1) 124 1 LS (.ref a :: ST) M h = j_rc (M a) 4 (q_k X (Rn X d 82 0 [some (.ref a)] [] M (j_h0 h)) h (d + 1) 124 4 LS ST) := s_callV mt_124 dL_carries_1 cl_8_114 mt_82 rfl rfl (Nat.le_add_left _ _) rfl rfl rfl rfl hcs
theorem e124_4 : Rn X d 124 4 LS (.int x :: ST) M h = Rn X d 124 5 LS ST M h := r_pop mt_124 dL_carries_4 rfl
theorem e124_5 : Rn X d 124 5 (some (.ref a) :: t) ST M h = Rn X d 124 6 (some (.ref a) :: t) (.ref a :: ST) M h := r_aload_n mt_124 dL_carries_5 rfl
theorem e124_6 (hcs : Nat.ble (j_cs ST) 8 = true) : Rn X (d + 1) 124 6 LS (.ref a :: ST) M h = j_rc (M a) 4 (q_k X (Rn X d 83 0 [some (.ref a), none, none] [] M (j_h0 h)) h (d + 1) 124 9 LS ST) := s_callV mt_124 dL_carries_6 cl_8_117 mt_83 rfl rfl (Nat.le_add_left _ _) rfl rfl rfl rfl hcs
theorem e124_9 : Rn X d 124 9 LS (.int x :: ST) M h = q_eq X x (zN 0) d 124 12 23 LS ST M h := s_ifne mt_124 dL_carries_9 rfl
theorem e124_12 : Rn X d 124 12 (some (.ref a) :: t) ST M h = Rn X d 124 13 (some (.ref a) :: t) (.ref a :: ST) M h := r_aload_n mt_124 dL_carries_12 rfl
theorem e124_13 (hcs : Nat.ble (j_cs ST) 8 = true) : Rn X (d + 1) 124 13 LS (.ref a :: ST) M h = q_k X (Rn X d 118 0 [some (.ref a), none] [] M (j_h0 h)) h (d + 1) 124 16 LS ST := s_callS (Or.inr (Or.inl rfl)) mt_124 dL_carries_13 cl_8_104 mt_118 rfl (Nat.le_add_left _ _) rfl rfl rfl rfl hcs
theorem e124_16 : Rn X d 124 16 LS (.int x :: ST) M h = q_lt X x (zN 0) d 124 23 19 LS ST M h := s_iflt mt_124 dL_carries_16 rfl
theorem e124_19 : Rn X d 124 19 LS ST M h = Rn X d 124 20 LS (.int (zN 1) :: ST) M h := r_iconst mt_124 dL_carries_19 c_ic1
theorem e124_20 : Rn X d 124 20 LS ST M h = Rn X d 124 24 LS ST M h := r_goto mt_124 dL_carries_20 rfl
theorem e124_23 : Rn X d 124 23 LS ST M h = Rn X d 124 24 LS (.int (zN 0) :: ST) M h := r_iconst mt_124 dL_carries_23 c_ic0
theorem e124_24 (ho : j_one l4 = true) : Rn X d 124 24 (l0 :: l1 :: l2 :: l3 :: l4 :: l5 :: t) (.int x :: ST) M h = Rn X d 124 26 (l0 :: l1 :: l2 :: l3 :: l4 :: some (.int x) :: t) ST M h := r_istore mt_124 dL_carries_24 (by show 5 < _; simp only [List.length_cons]; omega) ho rfl
theorem e124_26 : Rn X d 124 26 (some (.ref a) :: t) ST M h = Rn X d 124 27 (some (.ref a) :: t) (.ref a :: ST) M h := r_aload_n mt_124 dL_carries_26 rfl
theorem e124_27 : Rn X d 124 27 LS ST M h = Rn X d 124 29 LS (.int (zN 109) :: ST) M h := r_bipush mt_124 dL_carries_27 c_bi109
theorem e124_29 (hcs : Nat.ble (j_cs ST) 8 = true) : Rn X (d + 1) 124 29 LS (.int x :: .ref a :: ST) M h = q_k X (Rn X d 117 0 [some (.ref a), some (.int x), none] [] M (j_h0 h)) h (d + 1) 124 32 LS ST := s_callS (Or.inr (Or.inl rfl)) mt_124 dL_carries_29 cl_8_120 mt_117 rfl (Nat.le_add_left _ _) rfl rfl rfl rfl hcs
theorem e124_32 : Rn X d 124 32 LS (.int x :: ST) M h = Rn X d 124 33 LS ST M h := r_pop mt_124 dL_carries_32 rfl
theorem e124_33 : Rn X d 124 33 (some (.ref a) :: t) ST M h = Rn X d 124 34 (some (.ref a) :: t) (.ref a :: ST) M h := r_aload_n mt_124 dL_carries_33 rfl
theorem e124_34 : Rn X d 124 34 LS ST M h = Rn X d 124 36 LS (.int (zN 48) :: ST) M h := r_bipush mt_124 dL_carries_34 c_bi48
theorem e124_36 : Rn X d 124 36 (l0 :: some (.int x) :: t) ST M h = Rn X d 124 37 (l0 :: some (.int x) :: t) (.int x :: ST) M h := r_iload_n mt_124 dL_carries_36 rfl
theorem e124_37 : Rn X d 124 37 LS (.int y :: .int x :: ST) M h = Rn X d 124 38 LS (.int (x + y) :: ST) M h := r_iadd mt_124 dL_carries_37
theorem e124_38 (hcs : Nat.ble (j_cs ST) 8 = true) : Rn X (d + 1) 124 38 LS (.int x :: .ref a :: ST) M h = q_k X (Rn X d 117 0 [some (.ref a), some (.int x), none] [] M (j_h0 h)) h (d + 1) 124 41 LS ST := s_callS (Or.inr (Or.inl rfl)) mt_124 dL_carries_38 cl_8_120 mt_117 rfl (Nat.le_add_left _ _) rfl rfl rfl rfl hcs
theorem e124_41 : Rn X d 124 41 LS (.int x :: ST) M h = Rn X d 124 42 LS ST M h := r_pop mt_124 dL_carries_41 rfl
theorem e124_42 : Rn X d 124 42 (some (.ref a) :: t) ST M h = Rn X d 124 43 (some (.ref a) :: t) (.ref a :: ST) M h := r_aload_n mt_124 dL_carries_42 rfl
theorem e124_43 : Rn X d 124 43 LS ST M h = Rn X d 124 45 LS (.int (zN 48) :: ST) M h := r_bipush mt_124 dL_carries_43 c_bi48
theorem e124_45 : Rn X d 124 45 (l0 :: l1 :: some (.int x) :: t) ST M h = Rn X d 124 46 (l0 :: l1 :: some (.int x) :: t) (.int x :: ST) M h := r_iload_n mt_124 dL_carries_45 rfl
theorem e124_46 : Rn X d 124 46 LS (.int y :: .int x :: ST) M h = Rn X d 124 47 LS (.int (x + y) :: ST) M h := r_iadd mt_124 dL_carries_46
theorem e124_47 (hcs : Nat.ble (j_cs ST) 8 = true) : Rn X (d + 1) 124 47 LS (.int x :: .ref a :: ST) M h = q_k X (Rn X d 117 0 [some (.ref a), some (.int x), none] [] M (j_h0 h)) h (d + 1) 124 50 LS ST := s_callS (Or.inr (Or.inl rfl)) mt_124 dL_carries_47 cl_8_120 mt_117 rfl (Nat.le_add_left _ _) rfl rfl rfl rfl hcs
theorem e124_50 : Rn X d 124 50 LS (.int x :: ST) M h = Rn X d 124 51 LS ST M h := r_pop mt_124 dL_carries_50 rfl
theorem e124_51 : Rn X d 124 51 (some (.ref a) :: t) ST M h = Rn X d 124 52 (some (.ref a) :: t) (.ref a :: ST) M h := r_aload_n mt_124 dL_carries_51 rfl
theorem e124_52 : Rn X d 124 52 LS ST M h = Rn X d 124 54 LS (.int (zN 44) :: ST) M h := r_bipush mt_124 dL_carries_52 c_bi44
theorem e124_54 (hcs : Nat.ble (j_cs ST) 8 = true) : Rn X (d + 1) 124 54 LS (.int x :: .ref a :: ST) M h = q_k X (Rn X d 117 0 [some (.ref a), some (.int x), none] [] M (j_h0 h)) h (d + 1) 124 57 LS ST := s_callS (Or.inr (Or.inl rfl)) mt_124 dL_carries_54 cl_8_120 mt_117 rfl (Nat.le_add_left _ _) rfl rfl rfl rfl hcs
theorem e124_57 : Rn X d 124 57 LS (.int x :: ST) M h = Rn X d 124 58 LS ST M h := r_pop mt_124 dL_carries_57 rfl
theorem e124_58 : Rn X d 124 58 (some (.ref a) :: t) ST M h = Rn X d 124 59 (some (.ref a) :: t) (.ref a :: ST) M h := r_aload_n mt_124 dL_carries_58 rfl
theorem e124_59 : Rn X d 124 59 LS ST M h = Rn X d 124 61 LS (.int (zN 48) :: ST) M h := r_bipush mt_124 dL_carries_59 c_bi48
theorem e124_61 : Rn X d 124 61 (l0 :: l1 :: l2 :: some (.int x) :: t) ST M h = Rn X d 124 62 (l0 :: l1 :: l2 :: some (.int x) :: t) (.int x :: ST) M h := r_iload_n mt_124 dL_carries_61 rfl
theorem e124_62 : Rn X d 124 62 LS ST M h = Rn X d 124 64 LS (.int (zN 10) :: ST) M h := r_bipush mt_124 dL_carries_62 c_bi10
theorem e124_64 : Rn X d 124 64 LS (.int y :: .int x :: ST) M h = q_dv X x y d 124 65 LS ST M h := s_idiv mt_124 dL_carries_64
theorem e124_65 : Rn X d 124 65 LS (.int y :: .int x :: ST) M h = Rn X d 124 66 LS (.int (x + y) :: ST) M h := r_iadd mt_124 dL_carries_65
theorem e124_66 (hcs : Nat.ble (j_cs ST) 8 = true) : Rn X (d + 1) 124 66 LS (.int x :: .ref a :: ST) M h = q_k X (Rn X d 117 0 [some (.ref a), some (.int x), none] [] M (j_h0 h)) h (d + 1) 124 69 LS ST := s_callS (Or.inr (Or.inl rfl)) mt_124 dL_carries_66 cl_8_120 mt_117 rfl (Nat.le_add_left _ _) rfl rfl rfl rfl hcs
theorem e124_69 : Rn X d 124 69 LS (.int x :: ST) M h = Rn X d 124 70 LS ST M h := r_pop mt_124 dL_carries_69 rfl
theorem e124_70 : Rn X d 124 70 (some (.ref a) :: t) ST M h = Rn X d 124 71 (some (.ref a) :: t) (.ref a :: ST) M h := r_aload_n mt_124 dL_carries_70 rfl
theorem e124_71 : Rn X d 124 71 LS ST M h = Rn X d 124 73 LS (.int (zN 48) :: ST) M h := r_bipush mt_124 dL_carries_71 c_bi48
theorem e124_73 : Rn X d 124 73 (l0 :: l1 :: l2 :: some (.int x) :: t) ST M h = Rn X d 124 74 (l0 :: l1 :: l2 :: some (.int x) :: t) (.int x :: ST) M h := r_iload_n mt_124 dL_carries_73 rfl
theorem e124_74 : Rn X d 124 74 LS ST M h = Rn X d 124 76 LS (.int (zN 10) :: ST) M h := r_bipush mt_124 dL_carries_74 c_bi10
theorem e124_76 : Rn X d 124 76 LS (.int y :: .int x :: ST) M h = q_rm X x y d 124 77 LS ST M h := s_irem mt_124 dL_carries_76
theorem e124_77 : Rn X d 124 77 LS (.int y :: .int x :: ST) M h = Rn X d 124 78 LS (.int (x + y) :: ST) M h := r_iadd mt_124 dL_carries_77
theorem e124_78 (hcs : Nat.ble (j_cs ST) 8 = true) : Rn X (d + 1) 124 78 LS (.int x :: .ref a :: ST) M h = q_k X (Rn X d 117 0 [some (.ref a), some (.int x), none] [] M (j_h0 h)) h (d + 1) 124 81 LS ST := s_callS (Or.inr (Or.inl rfl)) mt_124 dL_carries_78 cl_8_120 mt_117 rfl (Nat.le_add_left _ _) rfl rfl rfl rfl hcs
theorem e124_81 : Rn X d 124 81 LS (.int x :: ST) M h = Rn X d 124 82 LS ST M h := r_pop mt_124 dL_carries_81 rfl
theorem e124_82 : Rn X d 124 82 (some (.ref a) :: t) ST M h = Rn X d 124 83 (some (.ref a) :: t) (.ref a :: ST) M h := r_aload_n mt_124 dL_carries_82 rfl
theorem e124_83 : Rn X d 124 83 LS ST M h = Rn X d 124 85 LS (.int (zN 59) :: ST) M h := r_bipush mt_124 dL_carries_83 c_bi59
theorem e124_85 (hcs : Nat.ble (j_cs ST) 8 = true) : Rn X (d + 1) 124 85 LS (.int x :: .ref a :: ST) M h = q_k X (Rn X d 117 0 [some (.ref a), some (.int x), none] [] M (j_h0 h)) h (d + 1) 124 88 LS ST := s_callS (Or.inr (Or.inl rfl)) mt_124 dL_carries_85 cl_8_120 mt_117 rfl (Nat.le_add_left _ _) rfl rfl rfl rfl hcs
theorem e124_88 : Rn X d 124 88 LS (.int x :: ST) M h = Rn X d 124 89 LS ST M h := r_pop mt_124 dL_carries_88 rfl
theorem e124_89 : Rn X d 124 89 (some (.ref a) :: t) ST M h = Rn X d 124 90 (some (.ref a) :: t) (.ref a :: ST) M h := r_aload_n mt_124 dL_carries_89 rfl
theorem e124_90 : Rn X d 124 90 LS ST M h = Rn X d 124 92 LS (.int (zN 114) :: ST) M h := r_bipush mt_124 dL_carries_90 c_bi114
theorem e124_92 (hcs : Nat.ble (j_cs ST) 8 = true) : Rn X (d + 1) 124 92 LS (.int x :: .ref a :: ST) M h = q_k X (Rn X d 117 0 [some (.ref a), some (.int x), none] [] M (j_h0 h)) h (d + 1) 124 95 LS ST := s_callS (Or.inr (Or.inl rfl)) mt_124 dL_carries_92 cl_8_120 mt_117 rfl (Nat.le_add_left _ _) rfl rfl rfl rfl hcs
theorem e124_95 : Rn X d 124 95 LS (.int x :: ST) M h = Rn X d 124 96 LS ST M h := r_pop mt_124 dL_carries_95 rfl
theorem e124_96 : Rn X d 124 96 (some (.ref a) :: t) ST M h = Rn X d 124 97 (some (.ref a) :: t) (.ref a :: ST) M h := r_aload_n mt_124 dL_carries_96 rfl
theorem e124_97 : Rn X d 124 97 LS ST M h = Rn X d 124 99 LS (.int (zN 48) :: ST) M h := r_bipush mt_124 dL_carries_97 c_bi48
theorem e124_99 : Rn X d 124 99 (l0 :: l1 :: l2 :: l3 :: some (.int x) :: t) ST M h = Rn X d 124 101 (l0 :: l1 :: l2 :: l3 :: some (.int x) :: t) (.int x :: ST) M h := r_iload mt_124 dL_carries_99 rfl
theorem e124_101 : Rn X d 124 101 LS (.int y :: .int x :: ST) M h = Rn X d 124 102 LS (.int (x + y) :: ST) M h := r_iadd mt_124 dL_carries_101
theorem e124_102 (hcs : Nat.ble (j_cs ST) 8 = true) : Rn X (d + 1) 124 102 LS (.int x :: .ref a :: ST) M h = q_k X (Rn X d 117 0 [some (.ref a), some (.int x), none] [] M (j_h0 h)) h (d + 1) 124 105 LS ST := s_callS (Or.inr (Or.inl rfl)) mt_124 dL_carries_102 cl_8_120 mt_117 rfl (Nat.le_add_left _ _) rfl rfl rfl rfl hcs
theorem e124_105 : Rn X d 124 105 LS (.int x :: ST) M h = Rn X d 124 106 LS ST M h := r_pop mt_124 dL_carries_105 rfl
theorem e124_106 : Rn X d 124 106 (some (.ref a) :: t) ST M h = Rn X d 124 107 (some (.ref a) :: t) (.ref a :: ST) M h := r_aload_n mt_124 dL_carries_106 rfl
theorem e124_107 : Rn X d 124 107 LS ST M h = Rn X d 124 109 LS (.int (zN 57) :: ST) M h := r_bipush mt_124 dL_carries_107 c_bi57
theorem e124_109 (hcs : Nat.ble (j_cs ST) 8 = true) : Rn X (d + 1) 124 109 LS (.int x :: .ref a :: ST) M h = q_k X (Rn X d 117 0 [some (.ref a), some (.int x), none] [] M (j_h0 h)) h (d + 1) 124 112 LS ST := s_callS (Or.inr (Or.inl rfl)) mt_124 dL_carries_109 cl_8_120 mt_117 rfl (Nat.le_add_left _ _) rfl rfl rfl rfl hcs
theorem e124_112 : Rn X d 124 112 LS (.int x :: ST) M h = Rn X d 124 113 LS ST M h := r_pop mt_124 dL_carries_112 rfl
theorem e124_113 : Rn X d 124 113 (some (.ref a) :: t) ST M h = Rn X d 124 114 (some (.ref a) :: t) (.ref a :: ST) M h := r_aload_n mt_124 dL_carries_113 rfl
theorem e124_114 : Rn X d 124 114 LS ST M h = Rn X d 124 116 LS (.int (zN 59) :: ST) M h := r_bipush mt_124 dL_carries_114 c_bi59
theorem e124_116 (hcs : Nat.ble (j_cs ST) 8 = true) : Rn X (d + 1) 124 116 LS (.int x :: .ref a :: ST) M h = q_k X (Rn X d 117 0 [some (.ref a), some (.int x), none] [] M (j_h0 h)) h (d + 1) 124 119 LS ST := s_callS (Or.inr (Or.inl rfl)) mt_124 dL_carries_116 cl_8_120 mt_117 rfl (Nat.le_add_left _ _) rfl rfl rfl rfl hcs
theorem e124_119 : Rn X d 124 119 LS (.int x :: ST) M h = Rn X d 124 120 LS ST M h := r_pop mt_124 dL_carries_119 rfl
theorem e124_120 : Rn X d 124 120 (some (.ref a) :: t) ST M h = Rn X d 124 121 (some (.ref a) :: t) (.ref a :: ST) M h := r_aload_n mt_124 dL_carries_120 rfl
theorem e124_121 : Rn X d 124 121 LS ST M h = Rn X d 124 123 LS (.int (zN 99) :: ST) M h := r_bipush mt_124 dL_carries_121 c_bi99
theorem e124_123 (hcs : Nat.ble (j_cs ST) 8 = true) : Rn X (d + 1) 124 123 LS (.int x :: .ref a :: ST) M h = q_k X (Rn X d 117 0 [some (.ref a), some (.int x), none] [] M (j_h0 h)) h (d + 1) 124 126 LS ST := s_callS (Or.inr (Or.inl rfl)) mt_124 dL_carries_123 cl_8_120 mt_117 rfl (Nat.le_add_left _ _) rfl rfl rfl rfl hcs
theorem e124_126 : Rn X d 124 126 LS (.int x :: ST) M h = Rn X d 124 127 LS ST M h := r_pop mt_124 dL_carries_126 rfl
theorem e124_127 : Rn X d 124 127 (some (.ref a) :: t) ST M h = Rn X d 124 128 (some (.ref a) :: t) (.ref a :: ST) M h := r_aload_n mt_124 dL_carries_127 rfl
theorem e124_128 : Rn X d 124 128 LS ST M h = Rn X d 124 130 LS (.int (zN 48) :: ST) M h := r_bipush mt_124 dL_carries_128 c_bi48
theorem e124_130 : Rn X d 124 130 (l0 :: l1 :: l2 :: l3 :: some (.int x) :: t) ST M h = Rn X d 124 132 (l0 :: l1 :: l2 :: l3 :: some (.int x) :: t) (.int x :: ST) M h := r_iload mt_124 dL_carries_130 rfl
theorem e124_132 : Rn X d 124 132 LS (.int y :: .int x :: ST) M h = Rn X d 124 133 LS (.int (x + y) :: ST) M h := r_iadd mt_124 dL_carries_132
theorem e124_133 (hcs : Nat.ble (j_cs ST) 8 = true) : Rn X (d + 1) 124 133 LS (.int x :: .ref a :: ST) M h = q_k X (Rn X d 117 0 [some (.ref a), some (.int x), none] [] M (j_h0 h)) h (d + 1) 124 136 LS ST := s_callS (Or.inr (Or.inl rfl)) mt_124 dL_carries_133 cl_8_120 mt_117 rfl (Nat.le_add_left _ _) rfl rfl rfl rfl hcs
theorem e124_136 : Rn X d 124 136 LS (.int x :: ST) M h = Rn X d 124 137 LS ST M h := r_pop mt_124 dL_carries_136 rfl
theorem e124_137 : Rn X d 124 137 (some (.ref a) :: t) ST M h = Rn X d 124 138 (some (.ref a) :: t) (.ref a :: ST) M h := r_aload_n mt_124 dL_carries_137 rfl
theorem e124_138 : Rn X d 124 138 LS ST M h = Rn X d 124 140 LS (.int (zN 59) :: ST) M h := r_bipush mt_124 dL_carries_138 c_bi59
theorem e124_140 (hcs : Nat.ble (j_cs ST) 8 = true) : Rn X (d + 1) 124 140 LS (.int x :: .ref a :: ST) M h = q_k X (Rn X d 117 0 [some (.ref a), some (.int x), none] [] M (j_h0 h)) h (d + 1) 124 143 LS ST := s_callS (Or.inr (Or.inl rfl)) mt_124 dL_carries_140 cl_8_120 mt_117 rfl (Nat.le_add_left _ _) rfl rfl rfl rfl hcs
theorem e124_143 (ho : j_one l5 = true) : Rn X d 124 143 (l0 :: l1 :: l2 :: l3 :: l4 :: l5 :: l6 :: t) (.int x :: ST) M h = Rn X d 124 145 (l0 :: l1 :: l2 :: l3 :: l4 :: l5 :: some (.int x) :: t) ST M h := r_istore mt_124 dL_carries_143 (by show 6 < _; simp only [List.length_cons]; omega) ho rfl
theorem e124_145 : Rn X d 124 145 (l0 :: some (.int x) :: t) ST M h = Rn X d 124 146 (l0 :: some (.int x) :: t) (.int x :: ST) M h := r_iload_n mt_124 dL_carries_145 rfl
theorem e124_146 : Rn X d 124 146 (l0 :: l1 :: some (.int x) :: t) ST M h = Rn X d 124 147 (l0 :: l1 :: some (.int x) :: t) (.int x :: ST) M h := r_iload_n mt_124 dL_carries_146 rfl
theorem e124_147 : Rn X d 124 147 LS (.int y :: .int x :: ST) M h = q_eq X x y d 124 167 150 LS ST M h := s_iceq mt_124 dL_carries_147 rfl
theorem e124_150 : Rn X d 124 150 (some (.ref a) :: t) ST M h = Rn X d 124 151 (some (.ref a) :: t) (.ref a :: ST) M h := r_aload_n mt_124 dL_carries_150 rfl
theorem e124_151 : Rn X d 124 151 LS ST M h = Rn X d 124 152 LS (.int (zN 3) :: ST) M h := r_iconst mt_124 dL_carries_151 c_ic3
theorem e124_152 (hcs : Nat.ble (j_cs ST) 8 = true) : Rn X (d + 1) 124 152 LS (.int x :: .ref a :: ST) M h = q_k X (Rn X d 112 0 [some (.ref a), some (.int x), none] [] M (j_h0 h)) h (d + 1) 124 155 LS ST := s_callS (Or.inr (Or.inl rfl)) mt_124 dL_carries_152 cl_8_73 mt_112 rfl (Nat.le_add_left _ _) rfl rfl rfl rfl hcs
theorem e124_155 : Rn X d 124 155 (some (.ref a) :: t) ST M h = Rn X d 124 156 (some (.ref a) :: t) (.ref a :: ST) M h := r_aload_n mt_124 dL_carries_155 rfl
theorem e124_156 : Rn X d 124 156 LS ST M h = Rn X d 124 157 LS (.int (zN 0) :: ST) M h := r_iconst mt_124 dL_carries_156 c_ic0
theorem e124_157 (hcs : Nat.ble (j_cs ST) 8 = true) : Rn X (d + 1) 124 157 LS (.int x :: .ref a :: ST) M h = q_k X (Rn X d 112 0 [some (.ref a), some (.int x), none] [] M (j_h0 h)) h (d + 1) 124 160 LS ST := s_callS (Or.inr (Or.inl rfl)) mt_124 dL_carries_157 cl_8_73 mt_112 rfl (Nat.le_add_left _ _) rfl rfl rfl rfl hcs
theorem e124_160 : Rn X d 124 160 LS (.int y :: .int x :: ST) M h = q_le X y x d 124 167 163 LS ST M h := s_icge mt_124 dL_carries_160 rfl
theorem e124_163 : Rn X d 124 163 LS ST M h = Rn X d 124 164 LS (.int (zN 1) :: ST) M h := r_iconst mt_124 dL_carries_163 c_ic1
theorem e124_164 : Rn X d 124 164 LS ST M h = Rn X d 124 168 LS ST M h := r_goto mt_124 dL_carries_164 rfl
theorem e124_167 : Rn X d 124 167 LS ST M h = Rn X d 124 168 LS (.int (zN 0) :: ST) M h := r_iconst mt_124 dL_carries_167 c_ic0
theorem e124_168 (ho : j_one l6 = true) : Rn X d 124 168 (l0 :: l1 :: l2 :: l3 :: l4 :: l5 :: l6 :: l7 :: t) (.int x :: ST) M h = Rn X d 124 170 (l0 :: l1 :: l2 :: l3 :: l4 :: l5 :: l6 :: some (.int x) :: t) ST M h := r_istore mt_124 dL_carries_168 (by show 7 < _; simp only [List.length_cons]; omega) ho rfl
theorem e124_170 : Rn X d 124 170 (some (.ref a) :: t) ST M h = Rn X d 124 171 (some (.ref a) :: t) (.ref a :: ST) M h := r_aload_n mt_124 dL_carries_170 rfl
theorem e124_171 : Rn X d 124 171 LS ST M h = Rn X d 124 172 LS (.int (zN 2) :: ST) M h := r_iconst mt_124 dL_carries_171 c_ic2
theorem e124_172 (hcs : Nat.ble (j_cs ST) 8 = true) : Rn X (d + 1) 124 172 LS (.int x :: .ref a :: ST) M h = q_k X (Rn X d 112 0 [some (.ref a), some (.int x), none] [] M (j_h0 h)) h (d + 1) 124 175 LS ST := s_callS (Or.inr (Or.inl rfl)) mt_124 dL_carries_172 cl_8_73 mt_112 rfl (Nat.le_add_left _ _) rfl rfl rfl rfl hcs
theorem e124_175 (ho : j_one l7 = true) : Rn X d 124 175 (l0 :: l1 :: l2 :: l3 :: l4 :: l5 :: l6 :: l7 :: l8 :: t) (.int x :: ST) M h = Rn X d 124 177 (l0 :: l1 :: l2 :: l3 :: l4 :: l5 :: l6 :: l7 :: some (.int x) :: t) ST M h := r_istore mt_124 dL_carries_175 (by show 8 < _; simp only [List.length_cons]; omega) ho rfl
theorem e124_177 : Rn X d 124 177 (l0 :: l1 :: l2 :: l3 :: l4 :: some (.int x) :: t) ST M h = Rn X d 124 179 (l0 :: l1 :: l2 :: l3 :: l4 :: some (.int x) :: t) (.int x :: ST) M h := r_iload mt_124 dL_carries_177 rfl
theorem e124_179 : Rn X d 124 179 LS (.int x :: ST) M h = q_eq X x (zN 0) d 124 231 182 LS ST M h := s_ifeq mt_124 dL_carries_179 rfl
theorem e124_182 : Rn X d 124 182 (l0 :: l1 :: l2 :: l3 :: l4 :: l5 :: some (.int x) :: t) ST M h = Rn X d 124 184 (l0 :: l1 :: l2 :: l3 :: l4 :: l5 :: some (.int x) :: t) (.int x :: ST) M h := r_iload mt_124 dL_carries_182 rfl
theorem e124_184 : Rn X d 124 184 LS ST M h = Rn X d 124 186 LS (.int (zN 14) :: ST) M h := r_bipush mt_124 dL_carries_184 c_bi14
theorem e124_186 : Rn X d 124 186 LS (.int y :: .int x :: ST) M h = q_eq X x y d 124 189 231 LS ST M h := s_icne mt_124 dL_carries_186 rfl
theorem e124_189 : Rn X d 124 189 (some (.ref a) :: t) ST M h = Rn X d 124 190 (some (.ref a) :: t) (.ref a :: ST) M h := r_aload_n mt_124 dL_carries_189 rfl
theorem e124_190 (hcs : Nat.ble (j_cs ST) 8 = true) : Rn X (d + 1) 124 190 LS (.ref a :: ST) M h = j_rc (M a) 4 (q_k X (Rn X d 83 0 [some (.ref a), none, none] [] M (j_h0 h)) h (d + 1) 124 193 LS ST) := s_callV mt_124 dL_carries_190 cl_8_117 mt_83 rfl rfl (Nat.le_add_left _ _) rfl rfl rfl rfl hcs
theorem e124_193 : Rn X d 124 193 (l0 :: l1 :: l2 :: l3 :: l4 :: l5 :: l6 :: some (.int x) :: t) ST M h = Rn X d 124 195 (l0 :: l1 :: l2 :: l3 :: l4 :: l5 :: l6 :: some (.int x) :: t) (.int x :: ST) M h := r_iload mt_124 dL_carries_193 rfl
theorem e124_195 : Rn X d 124 195 LS (.int x :: ST) M h = q_eq X x (zN 0) d 124 202 198 LS ST M h := s_ifeq mt_124 dL_carries_195 rfl
theorem e124_198 : Rn X d 124 198 LS ST M h = Rn X d 124 199 LS (.int (zN 3) :: ST) M h := r_iconst mt_124 dL_carries_198 c_ic3
theorem e124_199 : Rn X d 124 199 LS ST M h = Rn X d 124 203 LS ST M h := r_goto mt_124 dL_carries_199 rfl
theorem e124_202 : Rn X d 124 202 LS ST M h = Rn X d 124 203 LS (.int (zN 0) :: ST) M h := r_iconst mt_124 dL_carries_202 c_ic0
theorem e124_203 : Rn X d 124 203 LS (.int y :: .int x :: ST) M h = q_eq X x y d 124 206 231 LS ST M h := s_icne mt_124 dL_carries_203 rfl
theorem e124_206 : Rn X d 124 206 (some (.ref a) :: t) ST M h = Rn X d 124 207 (some (.ref a) :: t) (.ref a :: ST) M h := r_aload_n mt_124 dL_carries_206 rfl
theorem e124_207 : Rn X d 124 207 LS ST M h = Rn X d 124 208 LS (.int (zN 2) :: ST) M h := r_iconst mt_124 dL_carries_207 c_ic2
theorem e124_208 (hcs : Nat.ble (j_cs ST) 8 = true) : Rn X (d + 1) 124 208 LS (.int x :: .ref a :: ST) M h = q_k X (Rn X d 112 0 [some (.ref a), some (.int x), none] [] M (j_h0 h)) h (d + 1) 124 211 LS ST := s_callS (Or.inr (Or.inl rfl)) mt_124 dL_carries_208 cl_8_73 mt_112 rfl (Nat.le_add_left _ _) rfl rfl rfl rfl hcs
theorem e124_211 : Rn X d 124 211 (l0 :: l1 :: l2 :: l3 :: l4 :: l5 :: l6 :: l7 :: some (.int x) :: t) ST M h = Rn X d 124 213 (l0 :: l1 :: l2 :: l3 :: l4 :: l5 :: l6 :: l7 :: some (.int x) :: t) (.int x :: ST) M h := r_iload mt_124 dL_carries_211 rfl
theorem e124_213 : Rn X d 124 213 (l0 :: l1 :: l2 :: l3 :: l4 :: l5 :: l6 :: some (.int x) :: t) ST M h = Rn X d 124 215 (l0 :: l1 :: l2 :: l3 :: l4 :: l5 :: l6 :: some (.int x) :: t) (.int x :: ST) M h := r_iload mt_124 dL_carries_213 rfl
theorem e124_215 : Rn X d 124 215 LS (.int x :: ST) M h = q_eq X x (zN 0) d 124 222 218 LS ST M h := s_ifeq mt_124 dL_carries_215 rfl
theorem e124_218 : Rn X d 124 218 LS ST M h = Rn X d 124 219 LS (.int (zN 1) :: ST) M h := r_iconst mt_124 dL_carries_218 c_ic1
theorem e124_219 : Rn X d 124 219 LS ST M h = Rn X d 124 223 LS ST M h := r_goto mt_124 dL_carries_219 rfl
theorem e124_222 : Rn X d 124 222 LS ST M h = Rn X d 124 223 LS (.int (zN 0) :: ST) M h := r_iconst mt_124 dL_carries_222 c_ic0
theorem e124_223 : Rn X d 124 223 LS (.int y :: .int x :: ST) M h = Rn X d 124 224 LS (.int (x + y) :: ST) M h := r_iadd mt_124 dL_carries_223
theorem e124_224 : Rn X d 124 224 LS (.int y :: .int x :: ST) M h = q_eq X x y d 124 227 231 LS ST M h := s_icne mt_124 dL_carries_224 rfl
theorem e124_227 : Rn X d 124 227 LS ST M h = Rn X d 124 228 LS (.int (zN 1) :: ST) M h := r_iconst mt_124 dL_carries_227 c_ic1
theorem e124_228 : Rn X d 124 228 LS ST M h = Rn X d 124 232 LS ST M h := r_goto mt_124 dL_carries_228 rfl
theorem e124_231 : Rn X d 124 231 LS ST M h = Rn X d 124 232 LS (.int (zN 0) :: ST) M h := r_iconst mt_124 dL_carries_231 c_ic0
theorem e124_232 (ho : j_one l4 = true) : Rn X d 124 232 (l0 :: l1 :: l2 :: l3 :: l4 :: l5 :: t) (.int x :: ST) M h = Rn X d 124 234 (l0 :: l1 :: l2 :: l3 :: l4 :: some (.int x) :: t) ST M h := r_istore mt_124 dL_carries_232 (by show 5 < _; simp only [List.length_cons]; omega) ho rfl
theorem e124_234 : Rn X d 124 234 (some (.ref a) :: t) ST M h = Rn X d 124 235 (some (.ref a) :: t) (.ref a :: ST) M h := r_aload_n mt_124 dL_carries_234 rfl
theorem e124_235 : Rn X d 124 235 (l0 :: l1 :: l2 :: l3 :: some (.int x) :: t) ST M h = Rn X d 124 237 (l0 :: l1 :: l2 :: l3 :: some (.int x) :: t) (.int x :: ST) M h := r_iload mt_124 dL_carries_235 rfl
theorem e124_237 : Rn X d 124 237 LS ST M h = Rn X d 124 238 LS (.int (zN 4) :: ST) M h := r_iconst mt_124 dL_carries_237 c_ic4
theorem e124_238 (hcs : Nat.ble (j_cs ST) 8 = true) : Rn X (d + 1) 124 238 LS (.int y :: .int x :: .ref a :: ST) M h = q_k X (Rn X d 110 0 [some (.ref a), some (.int x), some (.int y), none] [] M (j_h0 h)) h (d + 1) 124 241 LS ST := s_callS (Or.inr (Or.inl rfl)) mt_124 dL_carries_238 cl_8_78 mt_110 rfl (Nat.le_add_left _ _) rfl rfl rfl rfl hcs
theorem e124_241 (ho : j_one l8 = true) : Rn X d 124 241 (l0 :: l1 :: l2 :: l3 :: l4 :: l5 :: l6 :: l7 :: l8 :: l9 :: t) (.int x :: ST) M h = Rn X d 124 243 (l0 :: l1 :: l2 :: l3 :: l4 :: l5 :: l6 :: l7 :: l8 :: some (.int x) :: t) ST M h := r_istore mt_124 dL_carries_241 (by show 9 < _; simp only [List.length_cons]; omega) ho rfl
theorem e124_243 : Rn X d 124 243 (some (.ref a) :: t) ST M h = Rn X d 124 244 (some (.ref a) :: t) (.ref a :: ST) M h := r_aload_n mt_124 dL_carries_243 rfl
theorem e124_244 : Rn X d 124 244 (l0 :: l1 :: l2 :: l3 :: some (.int x) :: t) ST M h = Rn X d 124 246 (l0 :: l1 :: l2 :: l3 :: some (.int x) :: t) (.int x :: ST) M h := r_iload mt_124 dL_carries_244 rfl
theorem e124_246 : Rn X d 124 246 LS ST M h = Rn X d 124 247 LS (.int (zN 5) :: ST) M h := r_iconst mt_124 dL_carries_246 c_ic5
theorem e124_247 (hcs : Nat.ble (j_cs ST) 8 = true) : Rn X (d + 1) 124 247 LS (.int y :: .int x :: .ref a :: ST) M h = q_k X (Rn X d 110 0 [some (.ref a), some (.int x), some (.int y), none] [] M (j_h0 h)) h (d + 1) 124 250 LS ST := s_callS (Or.inr (Or.inl rfl)) mt_124 dL_carries_247 cl_8_78 mt_110 rfl (Nat.le_add_left _ _) rfl rfl rfl rfl hcs
theorem e124_250 (ho : j_one l9 = true) : Rn X d 124 250 (l0 :: l1 :: l2 :: l3 :: l4 :: l5 :: l6 :: l7 :: l8 :: l9 :: l10 :: t) (.int x :: ST) M h = Rn X d 124 252 (l0 :: l1 :: l2 :: l3 :: l4 :: l5 :: l6 :: l7 :: l8 :: l9 :: some (.int x) :: t) ST M h := r_istore mt_124 dL_carries_250 (by show 10 < _; simp only [List.length_cons]; omega) ho rfl
theorem e124_252 : Rn X d 124 252 (l0 :: l1 :: l2 :: l3 :: l4 :: some (.int x) :: t) ST M h = Rn X d 124 254 (l0 :: l1 :: l2 :: l3 :: l4 :: some (.int x) :: t) (.int x :: ST) M h := r_iload mt_124 dL_carries_252 rfl
theorem e124_254 : Rn X d 124 254 LS (.int x :: ST) M h = q_eq X x (zN 0) d 124 278 257 LS ST M h := s_ifeq mt_124 dL_carries_254 rfl
theorem e124_257 : Rn X d 124 257 (some (.ref a) :: t) ST M h = Rn X d 124 258 (some (.ref a) :: t) (.ref a :: ST) M h := r_aload_n mt_124 dL_carries_257 rfl
theorem e124_258 (hcs : Nat.ble (j_cs ST) 8 = true) : Rn X (d + 1) 124 258 LS (.ref a :: ST) M h = q_k X (Rn X d 118 0 [some (.ref a), none] [] M (j_h0 h)) h (d + 1) 124 261 LS ST := s_callS (Or.inr (Or.inl rfl)) mt_124 dL_carries_258 cl_8_104 mt_118 rfl (Nat.le_add_left _ _) rfl rfl rfl rfl hcs
theorem e124_261 : Rn X d 124 261 LS (.int x :: ST) M h = q_lt X x (zN 0) d 124 278 264 LS ST M h := s_iflt mt_124 dL_carries_261 rfl
theorem e124_264 : Rn X d 124 264 (some (.ref a) :: t) ST M h = Rn X d 124 265 (some (.ref a) :: t) (.ref a :: ST) M h := r_aload_n mt_124 dL_carries_264 rfl
theorem e124_265 : Rn X d 124 265 LS ST M h = Rn X d 124 266 LS (.int (zN 2) :: ST) M h := r_iconst mt_124 dL_carries_265 c_ic2
theorem e124_266 (hcs : Nat.ble (j_cs ST) 8 = true) : Rn X (d + 1) 124 266 LS (.int x :: .ref a :: ST) M h = q_k X (Rn X d 112 0 [some (.ref a), some (.int x), none] [] M (j_h0 h)) h (d + 1) 124 269 LS ST := s_callS (Or.inr (Or.inl rfl)) mt_124 dL_carries_266 cl_8_73 mt_112 rfl (Nat.le_add_left _ _) rfl rfl rfl rfl hcs
theorem e124_269 : Rn X d 124 269 (l0 :: l1 :: l2 :: l3 :: l4 :: l5 :: l6 :: l7 :: some (.int x) :: t) ST M h = Rn X d 124 271 (l0 :: l1 :: l2 :: l3 :: l4 :: l5 :: l6 :: l7 :: some (.int x) :: t) (.int x :: ST) M h := r_iload mt_124 dL_carries_269 rfl
theorem e124_271 : Rn X d 124 271 LS (.int y :: .int x :: ST) M h = q_eq X x y d 124 274 278 LS ST M h := s_icne mt_124 dL_carries_271 rfl
theorem e124_274 : Rn X d 124 274 LS ST M h = Rn X d 124 275 LS (.int (zN 1) :: ST) M h := r_iconst mt_124 dL_carries_274 c_ic1
theorem e124_275 : Rn X d 124 275 LS ST M h = Rn X d 124 279 LS ST M h := r_goto mt_124 dL_carries_275 rfl
theorem e124_278 : Rn X d 124 278 LS ST M h = Rn X d 124 279 LS (.int (zN 0) :: ST) M h := r_iconst mt_124 dL_carries_278 c_ic0
theorem e124_279 (ho : j_one l4 = true) : Rn X d 124 279 (l0 :: l1 :: l2 :: l3 :: l4 :: l5 :: t) (.int x :: ST) M h = Rn X d 124 281 (l0 :: l1 :: l2 :: l3 :: l4 :: some (.int x) :: t) ST M h := r_istore mt_124 dL_carries_279 (by show 5 < _; simp only [List.length_cons]; omega) ho rfl
theorem e124_281 : Rn X d 124 281 (l0 :: l1 :: l2 :: l3 :: l4 :: l5 :: l6 :: some (.int x) :: t) ST M h = Rn X d 124 283 (l0 :: l1 :: l2 :: l3 :: l4 :: l5 :: l6 :: some (.int x) :: t) (.int x :: ST) M h := r_iload mt_124 dL_carries_281 rfl
theorem e124_283 : Rn X d 124 283 LS (.int x :: ST) M h = q_eq X x (zN 0) d 124 355 286 LS ST M h := s_ifeq mt_124 dL_carries_283 rfl
theorem e124_286 : Rn X d 124 286 (l0 :: l1 :: l2 :: l3 :: l4 :: some (.int x) :: t) ST M h = Rn X d 124 288 (l0 :: l1 :: l2 :: l3 :: l4 :: some (.int x) :: t) (.int x :: ST) M h := r_iload mt_124 dL_carries_286 rfl
theorem e124_288 : Rn X d 124 288 LS (.int x :: ST) M h = q_eq X x (zN 0) d 124 352 291 LS ST M h := s_ifeq mt_124 dL_carries_288 rfl
theorem e124_291 : Rn X d 124 291 (some (.ref a) :: t) ST M h = Rn X d 124 292 (some (.ref a) :: t) (.ref a :: ST) M h := r_aload_n mt_124 dL_carries_291 rfl
theorem e124_292 : Rn X d 124 292 LS ST M h = Rn X d 124 293 LS (.int (zN 2) :: ST) M h := r_iconst mt_124 dL_carries_292 c_ic2
theorem e124_293 : Rn X d 124 293 (l0 :: some (.int x) :: t) ST M h = Rn X d 124 294 (l0 :: some (.int x) :: t) (.int x :: ST) M h := r_iload_n mt_124 dL_carries_293 rfl
theorem e124_294 : Rn X d 124 294 (l0 :: l1 :: some (.int x) :: t) ST M h = Rn X d 124 295 (l0 :: l1 :: some (.int x) :: t) (.int x :: ST) M h := r_iload_n mt_124 dL_carries_294 rfl
theorem e124_295 : Rn X d 124 295 (l0 :: l1 :: l2 :: some (.int x) :: t) ST M h = Rn X d 124 296 (l0 :: l1 :: l2 :: some (.int x) :: t) (.int x :: ST) M h := r_iload_n mt_124 dL_carries_295 rfl
theorem e124_296 (hcs : Nat.ble (j_cs ST) 8 = true) : Rn X (d + 1) 124 296 LS (.int w :: .int z :: .int y :: .int x :: .ref a :: ST) M h = q_k X (Rn X d 103 0 [some (.ref a), some (.int x), some (.int y), some (.int z), some (.int w), none] [] M (j_h0 h)) h (d + 1) 124 299 LS ST := s_callS (Or.inr (Or.inl rfl)) mt_124 dL_carries_296 cl_8_122 mt_103 rfl (Nat.le_add_left _ _) rfl rfl rfl rfl hcs
theorem e124_299 : Rn X d 124 299 (l0 :: l1 :: l2 :: l3 :: l4 :: l5 :: l6 :: l7 :: some (.int x) :: t) ST M h = Rn X d 124 301 (l0 :: l1 :: l2 :: l3 :: l4 :: l5 :: l6 :: l7 :: some (.int x) :: t) (.int x :: ST) M h := r_iload mt_124 dL_carries_299 rfl
theorem e124_301 : Rn X d 124 301 LS (.int y :: .int x :: ST) M h = q_eq X x y d 124 304 352 LS ST M h := s_icne mt_124 dL_carries_301 rfl
theorem e124_304 : Rn X d 124 304 (some (.ref a) :: t) ST M h = Rn X d 124 305 (some (.ref a) :: t) (.ref a :: ST) M h := r_aload_n mt_124 dL_carries_304 rfl
theorem e124_305 : Rn X d 124 305 (l0 :: l1 :: l2 :: l3 :: some (.int x) :: t) ST M h = Rn X d 124 307 (l0 :: l1 :: l2 :: l3 :: some (.int x) :: t) (.int x :: ST) M h := r_iload mt_124 dL_carries_305 rfl
theorem e124_307 : Rn X d 124 307 LS ST M h = Rn X d 124 309 LS (.int (zN 9) :: ST) M h := r_bipush mt_124 dL_carries_307 c_bi9
theorem e124_309 (hcs : Nat.ble (j_cs ST) 8 = true) : Rn X (d + 1) 124 309 LS (.int y :: .int x :: .ref a :: ST) M h = q_k X (Rn X d 105 0 [some (.ref a), some (.int x), some (.int y), none] [] M (j_h0 h)) h (d + 1) 124 312 LS ST := s_callS (Or.inr (Or.inl rfl)) mt_124 dL_carries_309 cl_8_102 mt_105 rfl (Nat.le_add_left _ _) rfl rfl rfl rfl hcs
theorem e124_312 : Rn X d 124 312 LS (.int x :: ST) M h = q_lt X x (zN 0) d 124 352 315 LS ST M h := s_iflt mt_124 dL_carries_312 rfl
theorem e124_315 : Rn X d 124 315 (some (.ref a) :: t) ST M h = Rn X d 124 316 (some (.ref a) :: t) (.ref a :: ST) M h := r_aload_n mt_124 dL_carries_315 rfl
theorem e124_316 : Rn X d 124 316 (l0 :: l1 :: l2 :: l3 :: some (.int x) :: t) ST M h = Rn X d 124 318 (l0 :: l1 :: l2 :: l3 :: some (.int x) :: t) (.int x :: ST) M h := r_iload mt_124 dL_carries_316 rfl
theorem e124_318 (hcs : Nat.ble (j_cs ST) 8 = true) : Rn X (d + 1) 124 318 LS (.int x :: .ref a :: ST) M h = q_k X (Rn X d 107 0 [some (.ref a), some (.int x), none] [] M (j_h0 h)) h (d + 1) 124 321 LS ST := s_callS (Or.inr (Or.inl rfl)) mt_124 dL_carries_318 cl_8_107 mt_107 rfl (Nat.le_add_left _ _) rfl rfl rfl rfl hcs
theorem e124_321 : Rn X d 124 321 LS (.int x :: ST) M h = q_lt X x (zN 0) d 124 352 324 LS ST M h := s_iflt mt_124 dL_carries_321 rfl
theorem e124_324 : Rn X d 124 324 (some (.ref a) :: t) ST M h = Rn X d 124 325 (some (.ref a) :: t) (.ref a :: ST) M h := r_aload_n mt_124 dL_carries_324 rfl
theorem e124_325 : Rn X d 124 325 (l0 :: l1 :: l2 :: l3 :: some (.int x) :: t) ST M h = Rn X d 124 327 (l0 :: l1 :: l2 :: l3 :: some (.int x) :: t) (.int x :: ST) M h := r_iload mt_124 dL_carries_325 rfl
theorem e124_327 : Rn X d 124 327 LS ST M h = Rn X d 124 328 LS (.int (zN 4) :: ST) M h := r_iconst mt_124 dL_carries_327 c_ic4
theorem e124_328 (hcs : Nat.ble (j_cs ST) 8 = true) : Rn X (d + 1) 124 328 LS (.int y :: .int x :: .ref a :: ST) M h = q_k X (Rn X d 110 0 [some (.ref a), some (.int x), some (.int y), none] [] M (j_h0 h)) h (d + 1) 124 331 LS ST := s_callS (Or.inr (Or.inl rfl)) mt_124 dL_carries_328 cl_8_78 mt_110 rfl (Nat.le_add_left _ _) rfl rfl rfl rfl hcs
theorem e124_331 : Rn X d 124 331 (l0 :: l1 :: l2 :: l3 :: l4 :: l5 :: l6 :: l7 :: l8 :: some (.int x) :: t) ST M h = Rn X d 124 333 (l0 :: l1 :: l2 :: l3 :: l4 :: l5 :: l6 :: l7 :: l8 :: some (.int x) :: t) (.int x :: ST) M h := r_iload mt_124 dL_carries_331 rfl
theorem e124_333 : Rn X d 124 333 LS (.int y :: .int x :: ST) M h = q_eq X x y d 124 336 352 LS ST M h := s_icne mt_124 dL_carries_333 rfl
theorem e124_336 : Rn X d 124 336 (some (.ref a) :: t) ST M h = Rn X d 124 337 (some (.ref a) :: t) (.ref a :: ST) M h := r_aload_n mt_124 dL_carries_336 rfl
theorem e124_337 : Rn X d 124 337 (l0 :: l1 :: l2 :: l3 :: some (.int x) :: t) ST M h = Rn X d 124 339 (l0 :: l1 :: l2 :: l3 :: some (.int x) :: t) (.int x :: ST) M h := r_iload mt_124 dL_carries_337 rfl
theorem e124_339 : Rn X d 124 339 LS ST M h = Rn X d 124 340 LS (.int (zN 5) :: ST) M h := r_iconst mt_124 dL_carries_339 c_ic5
theorem e124_340 (hcs : Nat.ble (j_cs ST) 8 = true) : Rn X (d + 1) 124 340 LS (.int y :: .int x :: .ref a :: ST) M h = q_k X (Rn X d 110 0 [some (.ref a), some (.int x), some (.int y), none] [] M (j_h0 h)) h (d + 1) 124 343 LS ST := s_callS (Or.inr (Or.inl rfl)) mt_124 dL_carries_340 cl_8_78 mt_110 rfl (Nat.le_add_left _ _) rfl rfl rfl rfl hcs
theorem e124_343 : Rn X d 124 343 (l0 :: l1 :: l2 :: l3 :: l4 :: l5 :: l6 :: l7 :: l8 :: l9 :: some (.int x) :: t) ST M h = Rn X d 124 345 (l0 :: l1 :: l2 :: l3 :: l4 :: l5 :: l6 :: l7 :: l8 :: l9 :: some (.int x) :: t) (.int x :: ST) M h := r_iload mt_124 dL_carries_343 rfl
theorem e124_345 : Rn X d 124 345 LS (.int y :: .int x :: ST) M h = q_eq X x y d 124 348 352 LS ST M h := s_icne mt_124 dL_carries_345 rfl
theorem e124_348 : Rn X d 124 348 LS ST M h = Rn X d 124 349 LS (.int (zN 1) :: ST) M h := r_iconst mt_124 dL_carries_348 c_ic1
theorem e124_349 : Rn X d 124 349 LS ST M h = Rn X d 124 353 LS ST M h := r_goto mt_124 dL_carries_349 rfl
theorem e124_352 : Rn X d 124 352 LS ST M h = Rn X d 124 353 LS (.int (zN 0) :: ST) M h := r_iconst mt_124 dL_carries_352 c_ic0
theorem e124_353 (ho : j_one l4 = true) : Rn X d 124 353 (l0 :: l1 :: l2 :: l3 :: l4 :: l5 :: t) (.int x :: ST) M h = Rn X d 124 355 (l0 :: l1 :: l2 :: l3 :: l4 :: some (.int x) :: t) ST M h := r_istore mt_124 dL_carries_353 (by show 5 < _; simp only [List.length_cons]; omega) ho rfl
theorem e124_355 : Rn X d 124 355 (l0 :: l1 :: l2 :: l3 :: l4 :: some (.int x) :: t) ST M h = Rn X d 124 357 (l0 :: l1 :: l2 :: l3 :: l4 :: some (.int x) :: t) (.int x :: ST) M h := r_iload mt_124 dL_carries_355 rfl
theorem e124_357 : Rn X d 124 357 LS (.int x :: ST) M h = q_eq X x (zN 0) d 124 413 360 LS ST M h := s_ifeq mt_124 dL_carries_357 rfl
theorem e124_360 : Rn X d 124 360 (some (.ref a) :: t) ST M h = Rn X d 124 361 (some (.ref a) :: t) (.ref a :: ST) M h := r_aload_n mt_124 dL_carries_360 rfl
theorem e124_361 : Rn X d 124 361 LS ST M h = Rn X d 124 363 LS (.int (zN 99) :: ST) M h := r_bipush mt_124 dL_carries_361 c_bi99
theorem e124_363 (hcs : Nat.ble (j_cs ST) 8 = true) : Rn X (d + 1) 124 363 LS (.int x :: .ref a :: ST) M h = q_k X (Rn X d 117 0 [some (.ref a), some (.int x), none] [] M (j_h0 h)) h (d + 1) 124 366 LS ST := s_callS (Or.inr (Or.inl rfl)) mt_124 dL_carries_363 cl_8_120 mt_117 rfl (Nat.le_add_left _ _) rfl rfl rfl rfl hcs
theorem e124_366 : Rn X d 124 366 LS ST M h = Rn X d 124 368 LS (.int (zN 15) :: ST) M h := r_bipush mt_124 dL_carries_366 c_bi15
theorem e124_368 : Rn X d 124 368 LS (.int y :: .int x :: ST) M h = q_eq X x y d 124 371 413 LS ST M h := s_icne mt_124 dL_carries_368 rfl
theorem e124_371 : Rn X d 124 371 (some (.ref a) :: t) ST M h = Rn X d 124 372 (some (.ref a) :: t) (.ref a :: ST) M h := r_aload_n mt_124 dL_carries_371 rfl
theorem e124_372 (hcs : Nat.ble (j_cs ST) 8 = true) : Rn X (d + 1) 124 372 LS (.ref a :: ST) M h = j_rc (M a) 4 (q_k X (Rn X d 83 0 [some (.ref a), none, none] [] M (j_h0 h)) h (d + 1) 124 375 LS ST) := s_callV mt_124 dL_carries_372 cl_8_117 mt_83 rfl rfl (Nat.le_add_left _ _) rfl rfl rfl rfl hcs
theorem e124_375 : Rn X d 124 375 LS ST M h = Rn X d 124 377 LS (.int (zM 24) :: ST) M h := r_bipush mt_124 dL_carries_375 c_bim25
theorem e124_377 : Rn X d 124 377 LS (.int y :: .int x :: ST) M h = q_eq X x y d 124 380 413 LS ST M h := s_icne mt_124 dL_carries_377 rfl
theorem e124_380 : Rn X d 124 380 (some (.ref a) :: t) ST M h = Rn X d 124 381 (some (.ref a) :: t) (.ref a :: ST) M h := r_aload_n mt_124 dL_carries_380 rfl
theorem e124_381 : Rn X d 124 381 LS ST M h = Rn X d 124 383 LS (.int (zN 50) :: ST) M h := r_bipush mt_124 dL_carries_381 c_bi50
theorem e124_383 (hcs : Nat.ble (j_cs ST) 8 = true) : Rn X (d + 1) 124 383 LS (.int x :: .ref a :: ST) M h = q_k X (Rn X d 117 0 [some (.ref a), some (.int x), none] [] M (j_h0 h)) h (d + 1) 124 386 LS ST := s_callS (Or.inr (Or.inl rfl)) mt_124 dL_carries_383 cl_8_120 mt_117 rfl (Nat.le_add_left _ _) rfl rfl rfl rfl hcs
theorem e124_386 : Rn X d 124 386 LS ST M h = Rn X d 124 388 LS (.int (zN 16) :: ST) M h := r_bipush mt_124 dL_carries_386 c_bi16
theorem e124_388 : Rn X d 124 388 LS (.int y :: .int x :: ST) M h = q_eq X x y d 124 391 413 LS ST M h := s_icne mt_124 dL_carries_388 rfl
theorem e124_391 : Rn X d 124 391 (some (.ref a) :: t) ST M h = Rn X d 124 392 (some (.ref a) :: t) (.ref a :: ST) M h := r_aload_n mt_124 dL_carries_391 rfl
theorem e124_392 (hcs : Nat.ble (j_cs ST) 8 = true) : Rn X (d + 1) 124 392 LS (.ref a :: ST) M h = j_rc (M a) 4 (q_k X (Rn X d 83 0 [some (.ref a), none, none] [] M (j_h0 h)) h (d + 1) 124 395 LS ST) := s_callV mt_124 dL_carries_392 cl_8_117 mt_83 rfl rfl (Nat.le_add_left _ _) rfl rfl rfl rfl hcs
theorem e124_395 : Rn X d 124 395 LS ST M h = Rn X d 124 397 LS (.int (zM 24) :: ST) M h := r_bipush mt_124 dL_carries_395 c_bim25
theorem e124_397 : Rn X d 124 397 LS (.int y :: .int x :: ST) M h = q_eq X x y d 124 400 413 LS ST M h := s_icne mt_124 dL_carries_397 rfl
theorem e124_400 : Rn X d 124 400 (some (.ref a) :: t) ST M h = Rn X d 124 401 (some (.ref a) :: t) (.ref a :: ST) M h := r_aload_n mt_124 dL_carries_400 rfl
theorem e124_401 (hcs : Nat.ble (j_cs ST) 8 = true) : Rn X (d + 1) 124 401 LS (.ref a :: ST) M h = j_rc (M a) 4 (q_k X (Rn X d 82 0 [some (.ref a)] [] M (j_h0 h)) h (d + 1) 124 404 LS ST) := s_callV mt_124 dL_carries_401 cl_8_114 mt_82 rfl rfl (Nat.le_add_left _ _) rfl rfl rfl rfl hcs
theorem e124_404 : Rn X d 124 404 LS ST M h = Rn X d 124 406 LS (.int (zN 16) :: ST) M h := r_bipush mt_124 dL_carries_404 c_bi16
theorem e124_406 : Rn X d 124 406 LS (.int y :: .int x :: ST) M h = q_eq X x y d 124 409 413 LS ST M h := s_icne mt_124 dL_carries_406 rfl
theorem e124_409 : Rn X d 124 409 LS ST M h = Rn X d 124 410 LS (.int (zN 1) :: ST) M h := r_iconst mt_124 dL_carries_409 c_ic1
theorem e124_410 : Rn X d 124 410 LS ST M h = Rn X d 124 414 LS ST M h := r_goto mt_124 dL_carries_410 rfl
theorem e124_413 : Rn X d 124 413 LS ST M h = Rn X d 124 414 LS (.int (zN 0) :: ST) M h := r_iconst mt_124 dL_carries_413 c_ic0
theorem e124_414 (ho : j_one l4 = true) : Rn X d 124 414 (l0 :: l1 :: l2 :: l3 :: l4 :: l5 :: t) (.int x :: ST) M h = Rn X d 124 416 (l0 :: l1 :: l2 :: l3 :: l4 :: some (.int x) :: t) ST M h := r_istore mt_124 dL_carries_414 (by show 5 < _; simp only [List.length_cons]; omega) ho rfl
theorem e124_416 : Rn X d 124 416 (some (.ref a) :: t) ST M h = Rn X d 124 417 (some (.ref a) :: t) (.ref a :: ST) M h := r_aload_n mt_124 dL_carries_416 rfl
theorem e124_417 : Rn X d 124 417 LS ST M h = Rn X d 124 419 LS (.int (zN 108) :: ST) M h := r_bipush mt_124 dL_carries_417 c_bi108
theorem e124_419 (hcs : Nat.ble (j_cs ST) 8 = true) : Rn X (d + 1) 124 419 LS (.int x :: .ref a :: ST) M h = q_k X (Rn X d 117 0 [some (.ref a), some (.int x), none] [] M (j_h0 h)) h (d + 1) 124 422 LS ST := s_callS (Or.inr (Or.inl rfl)) mt_124 dL_carries_419 cl_8_120 mt_117 rfl (Nat.le_add_left _ _) rfl rfl rfl rfl hcs
theorem e124_422 : Rn X d 124 422 LS (.int x :: ST) M h = Rn X d 124 423 LS ST M h := r_pop mt_124 dL_carries_422 rfl
theorem e124_423 : Rn X d 124 423 (some (.ref a) :: t) ST M h = Rn X d 124 424 (some (.ref a) :: t) (.ref a :: ST) M h := r_aload_n mt_124 dL_carries_423 rfl
theorem e124_424 : Rn X d 124 424 LS ST M h = Rn X d 124 426 LS (.int (zN 48) :: ST) M h := r_bipush mt_124 dL_carries_424 c_bi48
theorem e124_426 : Rn X d 124 426 (l0 :: some (.int x) :: t) ST M h = Rn X d 124 427 (l0 :: some (.int x) :: t) (.int x :: ST) M h := r_iload_n mt_124 dL_carries_426 rfl
theorem e124_427 : Rn X d 124 427 LS (.int y :: .int x :: ST) M h = Rn X d 124 428 LS (.int (x + y) :: ST) M h := r_iadd mt_124 dL_carries_427
theorem e124_428 (hcs : Nat.ble (j_cs ST) 8 = true) : Rn X (d + 1) 124 428 LS (.int x :: .ref a :: ST) M h = q_k X (Rn X d 117 0 [some (.ref a), some (.int x), none] [] M (j_h0 h)) h (d + 1) 124 431 LS ST := s_callS (Or.inr (Or.inl rfl)) mt_124 dL_carries_428 cl_8_120 mt_117 rfl (Nat.le_add_left _ _) rfl rfl rfl rfl hcs
theorem e124_431 : Rn X d 124 431 LS (.int x :: ST) M h = Rn X d 124 432 LS ST M h := r_pop mt_124 dL_carries_431 rfl
theorem e124_432 : Rn X d 124 432 (some (.ref a) :: t) ST M h = Rn X d 124 433 (some (.ref a) :: t) (.ref a :: ST) M h := r_aload_n mt_124 dL_carries_432 rfl
theorem e124_433 : Rn X d 124 433 LS ST M h = Rn X d 124 435 LS (.int (zN 44) :: ST) M h := r_bipush mt_124 dL_carries_433 c_bi44
theorem e124_435 (hcs : Nat.ble (j_cs ST) 8 = true) : Rn X (d + 1) 124 435 LS (.int x :: .ref a :: ST) M h = q_k X (Rn X d 117 0 [some (.ref a), some (.int x), none] [] M (j_h0 h)) h (d + 1) 124 438 LS ST := s_callS (Or.inr (Or.inl rfl)) mt_124 dL_carries_435 cl_8_120 mt_117 rfl (Nat.le_add_left _ _) rfl rfl rfl rfl hcs
theorem e124_438 : Rn X d 124 438 LS (.int x :: ST) M h = Rn X d 124 439 LS ST M h := r_pop mt_124 dL_carries_438 rfl
theorem e124_439 : Rn X d 124 439 (some (.ref a) :: t) ST M h = Rn X d 124 440 (some (.ref a) :: t) (.ref a :: ST) M h := r_aload_n mt_124 dL_carries_439 rfl
theorem e124_440 : Rn X d 124 440 LS ST M h = Rn X d 124 442 LS (.int (zN 48) :: ST) M h := r_bipush mt_124 dL_carries_440 c_bi48
theorem e124_442 (hcs : Nat.ble (j_cs ST) 8 = true) : Rn X (d + 1) 124 442 LS (.int x :: .ref a :: ST) M h = q_k X (Rn X d 117 0 [some (.ref a), some (.int x), none] [] M (j_h0 h)) h (d + 1) 124 445 LS ST := s_callS (Or.inr (Or.inl rfl)) mt_124 dL_carries_442 cl_8_120 mt_117 rfl (Nat.le_add_left _ _) rfl rfl rfl rfl hcs
theorem e124_445 : Rn X d 124 445 LS (.int x :: ST) M h = Rn X d 124 446 LS ST M h := r_pop mt_124 dL_carries_445 rfl
theorem e124_446 : Rn X d 124 446 (l0 :: l1 :: l2 :: l3 :: l4 :: some (.int x) :: t) ST M h = Rn X d 124 448 (l0 :: l1 :: l2 :: l3 :: l4 :: some (.int x) :: t) (.int x :: ST) M h := r_iload mt_124 dL_carries_446 rfl
theorem e124_448 : Rn X d 124 448 LS (.int x :: ST) M h = q_eq X x (zN 0) d 124 512 451 LS ST M h := s_ifeq mt_124 dL_carries_448 rfl
theorem e124_451 : Rn X d 124 451 (some (.ref a) :: t) ST M h = Rn X d 124 452 (some (.ref a) :: t) (.ref a :: ST) M h := r_aload_n mt_124 dL_carries_451 rfl
theorem e124_452 (hcs : Nat.ble (j_cs ST) 8 = true) : Rn X (d + 1) 124 452 LS (.ref a :: ST) M h = j_rc (M a) 4 (q_k X (Rn X d 83 0 [some (.ref a), none, none] [] M (j_h0 h)) h (d + 1) 124 455 LS ST) := s_callV mt_124 dL_carries_452 cl_8_117 mt_83 rfl rfl (Nat.le_add_left _ _) rfl rfl rfl rfl hcs
theorem e124_455 : Rn X d 124 455 LS ST M h = Rn X d 124 457 LS (.int (zM 12) :: ST) M h := r_bipush mt_124 dL_carries_455 c_bim13
theorem e124_457 : Rn X d 124 457 LS (.int y :: .int x :: ST) M h = q_eq X x y d 124 460 512 LS ST M h := s_icne mt_124 dL_carries_457 rfl
theorem e124_460 : Rn X d 124 460 (some (.ref a) :: t) ST M h = Rn X d 124 461 (some (.ref a) :: t) (.ref a :: ST) M h := r_aload_n mt_124 dL_carries_460 rfl
theorem e124_461 : Rn X d 124 461 LS ST M h = Rn X d 124 463 LS (.int (zN 53) :: ST) M h := r_bipush mt_124 dL_carries_461 c_bi53
theorem e124_463 (hcs : Nat.ble (j_cs ST) 8 = true) : Rn X (d + 1) 124 463 LS (.int x :: .ref a :: ST) M h = q_k X (Rn X d 117 0 [some (.ref a), some (.int x), none] [] M (j_h0 h)) h (d + 1) 124 466 LS ST := s_callS (Or.inr (Or.inl rfl)) mt_124 dL_carries_463 cl_8_120 mt_117 rfl (Nat.le_add_left _ _) rfl rfl rfl rfl hcs
theorem e124_466 : Rn X d 124 466 LS ST M h = Rn X d 124 467 LS (.int (zN 5) :: ST) M h := r_iconst mt_124 dL_carries_466 c_ic5
theorem e124_467 : Rn X d 124 467 LS (.int y :: .int x :: ST) M h = q_eq X x y d 124 470 512 LS ST M h := s_icne mt_124 dL_carries_467 rfl
theorem e124_470 : Rn X d 124 470 (some (.ref a) :: t) ST M h = Rn X d 124 471 (some (.ref a) :: t) (.ref a :: ST) M h := r_aload_n mt_124 dL_carries_470 rfl
theorem e124_471 (hcs : Nat.ble (j_cs ST) 8 = true) : Rn X (d + 1) 124 471 LS (.ref a :: ST) M h = j_rc (M a) 4 (q_k X (Rn X d 83 0 [some (.ref a), none, none] [] M (j_h0 h)) h (d + 1) 124 474 LS ST) := s_callV mt_124 dL_carries_471 cl_8_117 mt_83 rfl rfl (Nat.le_add_left _ _) rfl rfl rfl rfl hcs
theorem e124_474 : Rn X d 124 474 LS ST M h = Rn X d 124 476 LS (.int (zM 14) :: ST) M h := r_bipush mt_124 dL_carries_474 c_bim15
theorem e124_476 : Rn X d 124 476 LS (.int y :: .int x :: ST) M h = q_eq X x y d 124 479 512 LS ST M h := s_icne mt_124 dL_carries_476 rfl
theorem e124_479 : Rn X d 124 479 (some (.ref a) :: t) ST M h = Rn X d 124 480 (some (.ref a) :: t) (.ref a :: ST) M h := r_aload_n mt_124 dL_carries_479 rfl
theorem e124_480 : Rn X d 124 480 LS ST M h = Rn X d 124 482 LS (.int (zN 53) :: ST) M h := r_bipush mt_124 dL_carries_480 c_bi53
theorem e124_482 (hcs : Nat.ble (j_cs ST) 8 = true) : Rn X (d + 1) 124 482 LS (.int x :: .ref a :: ST) M h = q_k X (Rn X d 117 0 [some (.ref a), some (.int x), none] [] M (j_h0 h)) h (d + 1) 124 485 LS ST := s_callS (Or.inr (Or.inl rfl)) mt_124 dL_carries_482 cl_8_120 mt_117 rfl (Nat.le_add_left _ _) rfl rfl rfl rfl hcs
theorem e124_485 : Rn X d 124 485 LS ST M h = Rn X d 124 487 LS (.int (zN 6) :: ST) M h := r_bipush mt_124 dL_carries_485 c_bi6
theorem e124_487 : Rn X d 124 487 LS (.int y :: .int x :: ST) M h = q_eq X x y d 124 490 512 LS ST M h := s_icne mt_124 dL_carries_487 rfl
theorem e124_490 : Rn X d 124 490 (some (.ref a) :: t) ST M h = Rn X d 124 491 (some (.ref a) :: t) (.ref a :: ST) M h := r_aload_n mt_124 dL_carries_490 rfl
theorem e124_491 (hcs : Nat.ble (j_cs ST) 8 = true) : Rn X (d + 1) 124 491 LS (.ref a :: ST) M h = j_rc (M a) 4 (q_k X (Rn X d 83 0 [some (.ref a), none, none] [] M (j_h0 h)) h (d + 1) 124 494 LS ST) := s_callV mt_124 dL_carries_491 cl_8_117 mt_83 rfl rfl (Nat.le_add_left _ _) rfl rfl rfl rfl hcs
theorem e124_494 : Rn X d 124 494 LS ST M h = Rn X d 124 496 LS (.int (zM 14) :: ST) M h := r_bipush mt_124 dL_carries_494 c_bim15
theorem e124_496 : Rn X d 124 496 LS (.int y :: .int x :: ST) M h = q_eq X x y d 124 499 512 LS ST M h := s_icne mt_124 dL_carries_496 rfl
theorem e124_499 : Rn X d 124 499 (some (.ref a) :: t) ST M h = Rn X d 124 500 (some (.ref a) :: t) (.ref a :: ST) M h := r_aload_n mt_124 dL_carries_499 rfl
theorem e124_500 (hcs : Nat.ble (j_cs ST) 8 = true) : Rn X (d + 1) 124 500 LS (.ref a :: ST) M h = j_rc (M a) 4 (q_k X (Rn X d 82 0 [some (.ref a)] [] M (j_h0 h)) h (d + 1) 124 503 LS ST) := s_callV mt_124 dL_carries_500 cl_8_114 mt_82 rfl rfl (Nat.le_add_left _ _) rfl rfl rfl rfl hcs
theorem e124_503 : Rn X d 124 503 LS ST M h = Rn X d 124 505 LS (.int (zN 6) :: ST) M h := r_bipush mt_124 dL_carries_503 c_bi6
theorem e124_505 : Rn X d 124 505 LS (.int y :: .int x :: ST) M h = q_eq X x y d 124 508 512 LS ST M h := s_icne mt_124 dL_carries_505 rfl
theorem e124_508 : Rn X d 124 508 LS ST M h = Rn X d 124 509 LS (.int (zN 1) :: ST) M h := r_iconst mt_124 dL_carries_508 c_ic1
theorem e124_509 : Rn X d 124 509 LS ST M h = Rn X d 124 513 LS ST M h := r_goto mt_124 dL_carries_509 rfl
theorem e124_512 : Rn X d 124 512 LS ST M h = Rn X d 124 513 LS (.int (zN 0) :: ST) M h := r_iconst mt_124 dL_carries_512 c_ic0
theorem e124_513 {v : Nat} (h0 : v < 2) : Rn X d 124 513 LS ([.int (zN v)]) M h = some (.inl (some (.int (zN v))), M, h) := s_zret mt_124 dL_carries_513 rfl h0
theorem e125_0 : Rn X d 125 0 (some (.ref a) :: t) ST M h = Rn X d 125 1 (some (.ref a) :: t) (.ref a :: ST) M h := r_aload_n mt_125 dL_refuses_0 rfl
theorem e125_1 (hcs : Nat.ble (j_cs ST) 8 = true) : Rn X (d + 1) 125 1 LS (.ref a :: ST) M h = j_rc (M a) 4 (q_k X (Rn X d 85 0 [some (.ref a), none, none, none] [] M (j_h0 h)) h (d + 1) 125 4 LS ST) := s_callV mt_125 dL_refuses_1 cl_8_125 mt_85 rfl rfl (Nat.le_add_left _ _) rfl rfl rfl rfl hcs
theorem e125_4 (ho : j_one l0 = true) : Rn X d 125 4 (l0 :: l1 :: l2 :: t) (.long p :: ST) M h = Rn X d 125 5 (l0 :: some (.long p) :: none :: t) ST M h := r_lstore_n mt_125 dL_refuses_4 (by show 2 < _; simp only [List.length_cons]; omega) ho rfl
theorem e125_5 : Rn X d 125 5 (some (.ref a) :: t) ST M h = Rn X d 125 6 (some (.ref a) :: t) (.ref a :: ST) M h := r_aload_n mt_125 dL_refuses_5 rfl
theorem e125_6 : Rn X d 125 6 LS ST M h = Rn X d 125 7 LS (.int (zN 2) :: ST) M h := r_iconst mt_125 dL_refuses_6 c_ic2
theorem e125_7 (hcs : Nat.ble (j_cs ST) 8 = true) : Rn X (d + 1) 125 7 LS (.int x :: .ref a :: ST) M h = q_k X (Rn X d 112 0 [some (.ref a), some (.int x), none] [] M (j_h0 h)) h (d + 1) 125 10 LS ST := s_callS (Or.inr (Or.inl rfl)) mt_125 dL_refuses_7 cl_8_73 mt_112 rfl (Nat.le_add_left _ _) rfl rfl rfl rfl hcs
theorem e125_10 (ho : j_one l2 = true) : Rn X d 125 10 (l0 :: l1 :: l2 :: l3 :: t) (.int x :: ST) M h = Rn X d 125 11 (l0 :: l1 :: l2 :: some (.int x) :: t) ST M h := r_istore_n mt_125 dL_refuses_10 (by show 3 < _; simp only [List.length_cons]; omega) ho rfl
theorem e125_11 : Rn X d 125 11 (some (.ref a) :: t) ST M h = Rn X d 125 12 (some (.ref a) :: t) (.ref a :: ST) M h := r_aload_n mt_125 dL_refuses_11 rfl
theorem e125_12 : Rn X d 125 12 LS ST M h = Rn X d 125 13 LS (.int (zN 3) :: ST) M h := r_iconst mt_125 dL_refuses_12 c_ic3
theorem e125_13 (hcs : Nat.ble (j_cs ST) 8 = true) : Rn X (d + 1) 125 13 LS (.int x :: .ref a :: ST) M h = q_k X (Rn X d 102 0 [some (.ref a), some (.int x), none] [] M (j_h0 h)) h (d + 1) 125 16 LS ST := s_callS (Or.inr (Or.inl rfl)) mt_125 dL_refuses_13 cl_8_129 mt_102 rfl (Nat.le_add_left _ _) rfl rfl rfl rfl hcs
theorem e125_16 : Rn X d 125 16 LS ST M h = Rn X d 125 18 LS (.int (zM 10) :: ST) M h := r_bipush mt_125 dL_refuses_16 c_bim11
theorem e125_18 : Rn X d 125 18 LS (.int y :: .int x :: ST) M h = q_eq X x y d 125 21 179 LS ST M h := s_icne mt_125 dL_refuses_18 rfl
theorem e125_21 : Rn X d 125 21 (some (.ref a) :: t) ST M h = Rn X d 125 22 (some (.ref a) :: t) (.ref a :: ST) M h := r_aload_n mt_125 dL_refuses_21 rfl
theorem e125_22 : Rn X d 125 22 LS ST M h = Rn X d 125 24 LS (.int (zN 33) :: ST) M h := r_bipush mt_125 dL_refuses_22 c_bi33
theorem e125_24 (hcs : Nat.ble (j_cs ST) 8 = true) : Rn X (d + 1) 125 24 LS (.int x :: .ref a :: ST) M h = q_k X (Rn X d 102 0 [some (.ref a), some (.int x), none] [] M (j_h0 h)) h (d + 1) 125 27 LS ST := s_callS (Or.inr (Or.inl rfl)) mt_125 dL_refuses_24 cl_8_129 mt_102 rfl (Nat.le_add_left _ _) rfl rfl rfl rfl hcs
theorem e125_27 : Rn X d 125 27 LS ST M h = Rn X d 125 29 LS (.int (zM 10) :: ST) M h := r_bipush mt_125 dL_refuses_27 c_bim11
theorem e125_29 : Rn X d 125 29 LS (.int y :: .int x :: ST) M h = q_eq X x y d 125 32 179 LS ST M h := s_icne mt_125 dL_refuses_29 rfl
theorem e125_32 : Rn X d 125 32 (some (.ref a) :: t) ST M h = Rn X d 125 33 (some (.ref a) :: t) (.ref a :: ST) M h := r_aload_n mt_125 dL_refuses_32 rfl
theorem e125_33 : Rn X d 125 33 LS ST M h = Rn X d 125 34 LS (.int (zN 5) :: ST) M h := r_iconst mt_125 dL_refuses_33 c_ic5
theorem e125_34 : Rn X d 125 34 LS ST M h = Rn X d 125 35 LS (.int (zN 0) :: ST) M h := r_iconst mt_125 dL_refuses_34 c_ic0
theorem e125_35 : Rn X d 125 35 LS ST M h = Rn X d 125 36 LS (.int (zN 1) :: ST) M h := r_iconst mt_125 dL_refuses_35 c_ic1
theorem e125_36 : Rn X d 125 36 LS ST M h = Rn X d 125 37 LS (.int (zN 1) :: ST) M h := r_iconst mt_125 dL_refuses_36 c_ic1
theorem e125_37 (hcs : Nat.ble (j_cs ST) 8 = true) : Rn X (d + 1) 125 37 LS (.int w :: .int z :: .int y :: .int x :: .ref a :: ST) M h = q_k X (Rn X d 103 0 [some (.ref a), some (.int x), some (.int y), some (.int z), some (.int w), none] [] M (j_h0 h)) h (d + 1) 125 40 LS ST := s_callS (Or.inr (Or.inl rfl)) mt_125 dL_refuses_37 cl_8_122 mt_103 rfl (Nat.le_add_left _ _) rfl rfl rfl rfl hcs
theorem e125_40 : Rn X d 125 40 LS ST M h = Rn X d 125 42 LS (.int (zM 10) :: ST) M h := r_bipush mt_125 dL_refuses_40 c_bim11
theorem e125_42 : Rn X d 125 42 LS (.int y :: .int x :: ST) M h = q_eq X x y d 125 45 179 LS ST M h := s_icne mt_125 dL_refuses_42 rfl
theorem e125_45 : Rn X d 125 45 (some (.ref a) :: t) ST M h = Rn X d 125 46 (some (.ref a) :: t) (.ref a :: ST) M h := r_aload_n mt_125 dL_refuses_45 rfl
theorem e125_46 : Rn X d 125 46 LS ST M h = Rn X d 125 47 LS (.int (zN 0) :: ST) M h := r_iconst mt_125 dL_refuses_46 c_ic0
theorem e125_47 : Rn X d 125 47 LS ST M h = Rn X d 125 49 LS (.int (zN 8) :: ST) M h := r_bipush mt_125 dL_refuses_47 c_bi8
theorem e125_49 : Rn X d 125 49 LS ST M h = Rn X d 125 50 LS (.int (zN 1) :: ST) M h := r_iconst mt_125 dL_refuses_49 c_ic1
theorem e125_50 : Rn X d 125 50 LS ST M h = Rn X d 125 51 LS (.int (zN 1) :: ST) M h := r_iconst mt_125 dL_refuses_50 c_ic1
theorem e125_51 (hcs : Nat.ble (j_cs ST) 8 = true) : Rn X (d + 1) 125 51 LS (.int w :: .int z :: .int y :: .int x :: .ref a :: ST) M h = q_k X (Rn X d 103 0 [some (.ref a), some (.int x), some (.int y), some (.int z), some (.int w), none] [] M (j_h0 h)) h (d + 1) 125 54 LS ST := s_callS (Or.inr (Or.inl rfl)) mt_125 dL_refuses_51 cl_8_122 mt_103 rfl (Nat.le_add_left _ _) rfl rfl rfl rfl hcs
theorem e125_54 : Rn X d 125 54 LS ST M h = Rn X d 125 56 LS (.int (zM 10) :: ST) M h := r_bipush mt_125 dL_refuses_54 c_bim11
theorem e125_56 : Rn X d 125 56 LS (.int y :: .int x :: ST) M h = q_eq X x y d 125 59 179 LS ST M h := s_icne mt_125 dL_refuses_56 rfl
theorem e125_59 : Rn X d 125 59 (some (.ref a) :: t) ST M h = Rn X d 125 60 (some (.ref a) :: t) (.ref a :: ST) M h := r_aload_n mt_125 dL_refuses_59 rfl
theorem e125_60 : Rn X d 125 60 LS ST M h = Rn X d 125 61 LS (.int (zN 2) :: ST) M h := r_iconst mt_125 dL_refuses_60 c_ic2
theorem e125_61 : Rn X d 125 61 LS ST M h = Rn X d 125 62 LS (.int (zN 0) :: ST) M h := r_iconst mt_125 dL_refuses_61 c_ic0
theorem e125_62 : Rn X d 125 62 LS ST M h = Rn X d 125 64 LS (.int (zN 8) :: ST) M h := r_bipush mt_125 dL_refuses_62 c_bi8
theorem e125_64 : Rn X d 125 64 LS ST M h = Rn X d 125 65 LS (.int (zN 1) :: ST) M h := r_iconst mt_125 dL_refuses_64 c_ic1
theorem e125_65 (hcs : Nat.ble (j_cs ST) 8 = true) : Rn X (d + 1) 125 65 LS (.int w :: .int z :: .int y :: .int x :: .ref a :: ST) M h = q_k X (Rn X d 103 0 [some (.ref a), some (.int x), some (.int y), some (.int z), some (.int w), none] [] M (j_h0 h)) h (d + 1) 125 68 LS ST := s_callS (Or.inr (Or.inl rfl)) mt_125 dL_refuses_65 cl_8_122 mt_103 rfl (Nat.le_add_left _ _) rfl rfl rfl rfl hcs
theorem e125_68 : Rn X d 125 68 LS ST M h = Rn X d 125 70 LS (.int (zM 10) :: ST) M h := r_bipush mt_125 dL_refuses_68 c_bim11
theorem e125_70 : Rn X d 125 70 LS (.int y :: .int x :: ST) M h = q_eq X x y d 125 73 179 LS ST M h := s_icne mt_125 dL_refuses_70 rfl
theorem e125_73 : Rn X d 125 73 (some (.ref a) :: t) ST M h = Rn X d 125 74 (some (.ref a) :: t) (.ref a :: ST) M h := r_aload_n mt_125 dL_refuses_73 rfl
theorem e125_74 : Rn X d 125 74 LS ST M h = Rn X d 125 75 LS (.int (zN 3) :: ST) M h := r_iconst mt_125 dL_refuses_74 c_ic3
theorem e125_75 : Rn X d 125 75 LS ST M h = Rn X d 125 76 LS (.int (zN 4) :: ST) M h := r_iconst mt_125 dL_refuses_75 c_ic4
theorem e125_76 : Rn X d 125 76 LS ST M h = Rn X d 125 77 LS (.int (zN 4) :: ST) M h := r_iconst mt_125 dL_refuses_76 c_ic4
theorem e125_77 : Rn X d 125 77 LS ST M h = Rn X d 125 78 LS (.int (zN 1) :: ST) M h := r_iconst mt_125 dL_refuses_77 c_ic1
theorem e125_78 (hcs : Nat.ble (j_cs ST) 8 = true) : Rn X (d + 1) 125 78 LS (.int w :: .int z :: .int y :: .int x :: .ref a :: ST) M h = q_k X (Rn X d 103 0 [some (.ref a), some (.int x), some (.int y), some (.int z), some (.int w), none] [] M (j_h0 h)) h (d + 1) 125 81 LS ST := s_callS (Or.inr (Or.inl rfl)) mt_125 dL_refuses_78 cl_8_122 mt_103 rfl (Nat.le_add_left _ _) rfl rfl rfl rfl hcs
theorem e125_81 : Rn X d 125 81 LS ST M h = Rn X d 125 83 LS (.int (zM 10) :: ST) M h := r_bipush mt_125 dL_refuses_81 c_bim11
theorem e125_83 : Rn X d 125 83 LS (.int y :: .int x :: ST) M h = q_eq X x y d 125 86 179 LS ST M h := s_icne mt_125 dL_refuses_83 rfl
theorem e125_86 : Rn X d 125 86 (some (.ref a) :: t) ST M h = Rn X d 125 87 (some (.ref a) :: t) (.ref a :: ST) M h := r_aload_n mt_125 dL_refuses_86 rfl
theorem e125_87 : Rn X d 125 87 LS ST M h = Rn X d 125 88 LS (.int (zN 1) :: ST) M h := r_iconst mt_125 dL_refuses_87 c_ic1
theorem e125_88 : Rn X d 125 88 LS ST M h = Rn X d 125 89 LS (.int (zN 0) :: ST) M h := r_iconst mt_125 dL_refuses_88 c_ic0
theorem e125_89 : Rn X d 125 89 LS ST M h = Rn X d 125 90 LS (.int (zN 0) :: ST) M h := r_iconst mt_125 dL_refuses_89 c_ic0
theorem e125_90 : Rn X d 125 90 LS ST M h = Rn X d 125 91 LS (.int (zN 0) :: ST) M h := r_iconst mt_125 dL_refuses_90 c_ic0
theorem e125_91 (hcs : Nat.ble (j_cs ST) 8 = true) : Rn X (d + 1) 125 91 LS (.int w :: .int z :: .int y :: .int x :: .ref a :: ST) M h = q_k X (Rn X d 103 0 [some (.ref a), some (.int x), some (.int y), some (.int z), some (.int w), none] [] M (j_h0 h)) h (d + 1) 125 94 LS ST := s_callS (Or.inr (Or.inl rfl)) mt_125 dL_refuses_91 cl_8_122 mt_103 rfl (Nat.le_add_left _ _) rfl rfl rfl rfl hcs
theorem e125_94 : Rn X d 125 94 LS ST M h = Rn X d 125 96 LS (.int (zM 10) :: ST) M h := r_bipush mt_125 dL_refuses_94 c_bim11
theorem e125_96 : Rn X d 125 96 LS (.int y :: .int x :: ST) M h = q_eq X x y d 125 99 179 LS ST M h := s_icne mt_125 dL_refuses_96 rfl
theorem e125_99 : Rn X d 125 99 (some (.ref a) :: t) ST M h = Rn X d 125 100 (some (.ref a) :: t) (.ref a :: ST) M h := r_aload_n mt_125 dL_refuses_99 rfl
theorem e125_100 : Rn X d 125 100 LS ST M h = Rn X d 125 101 LS (.int (zN 1) :: ST) M h := r_iconst mt_125 dL_refuses_100 c_ic1
theorem e125_101 : Rn X d 125 101 LS ST M h = Rn X d 125 102 LS (.int (zN 0) :: ST) M h := r_iconst mt_125 dL_refuses_101 c_ic0
theorem e125_102 : Rn X d 125 102 LS ST M h = Rn X d 125 103 LS (.int (zN 0) :: ST) M h := r_iconst mt_125 dL_refuses_102 c_ic0
theorem e125_103 : Rn X d 125 103 LS ST M h = Rn X d 125 105 LS (.int (zN 100) :: ST) M h := r_bipush mt_125 dL_refuses_103 c_bi100
theorem e125_105 (hcs : Nat.ble (j_cs ST) 8 = true) : Rn X (d + 1) 125 105 LS (.int w :: .int z :: .int y :: .int x :: .ref a :: ST) M h = q_k X (Rn X d 103 0 [some (.ref a), some (.int x), some (.int y), some (.int z), some (.int w), none] [] M (j_h0 h)) h (d + 1) 125 108 LS ST := s_callS (Or.inr (Or.inl rfl)) mt_125 dL_refuses_105 cl_8_122 mt_103 rfl (Nat.le_add_left _ _) rfl rfl rfl rfl hcs
theorem e125_108 : Rn X d 125 108 LS ST M h = Rn X d 125 110 LS (.int (zM 10) :: ST) M h := r_bipush mt_125 dL_refuses_108 c_bim11
theorem e125_110 : Rn X d 125 110 LS (.int y :: .int x :: ST) M h = q_eq X x y d 125 113 179 LS ST M h := s_icne mt_125 dL_refuses_110 rfl
theorem e125_113 : Rn X d 125 113 (some (.ref a) :: t) ST M h = Rn X d 125 114 (some (.ref a) :: t) (.ref a :: ST) M h := r_aload_n mt_125 dL_refuses_113 rfl
theorem e125_114 : Rn X d 125 114 (l0 :: l1 :: l2 :: some (.int x) :: t) ST M h = Rn X d 125 115 (l0 :: l1 :: l2 :: some (.int x) :: t) (.int x :: ST) M h := r_iload_n mt_125 dL_refuses_114 rfl
theorem e125_115 : Rn X d 125 115 LS ST M h = Rn X d 125 116 LS (.int (zN 0) :: ST) M h := r_iconst mt_125 dL_refuses_115 c_ic0
theorem e125_116 (hcs : Nat.ble (j_cs ST) 8 = true) : Rn X (d + 1) 125 116 LS (.int y :: .int x :: .ref a :: ST) M h = q_k X (Rn X d 104 0 [some (.ref a), some (.int x), some (.int y), none] [] M (j_h0 h)) h (d + 1) 125 119 LS ST := s_callS (Or.inr (Or.inl rfl)) mt_125 dL_refuses_116 cl_8_131 mt_104 rfl (Nat.le_add_left _ _) rfl rfl rfl rfl hcs
theorem e125_119 : Rn X d 125 119 LS ST M h = Rn X d 125 121 LS (.int (zM 10) :: ST) M h := r_bipush mt_125 dL_refuses_119 c_bim11
theorem e125_121 : Rn X d 125 121 LS (.int y :: .int x :: ST) M h = q_eq X x y d 125 124 179 LS ST M h := s_icne mt_125 dL_refuses_121 rfl
theorem e125_124 : Rn X d 125 124 (some (.ref a) :: t) ST M h = Rn X d 125 125 (some (.ref a) :: t) (.ref a :: ST) M h := r_aload_n mt_125 dL_refuses_124 rfl
theorem e125_125 : Rn X d 125 125 (some (.ref a) :: t) ST M h = Rn X d 125 126 (some (.ref a) :: t) (.ref a :: ST) M h := r_aload_n mt_125 dL_refuses_125 rfl
theorem e125_126 : Rn X d 125 126 LS ST M h = Rn X d 125 127 LS (.int (zN 1) :: ST) M h := r_iconst mt_125 dL_refuses_126 c_ic1
theorem e125_127 (hcs : Nat.ble (j_cs ST) 8 = true) : Rn X (d + 1) 125 127 LS (.int x :: .ref a :: ST) M h = q_k X (Rn X d 112 0 [some (.ref a), some (.int x), none] [] M (j_h0 h)) h (d + 1) 125 130 LS ST := s_callS (Or.inr (Or.inl rfl)) mt_125 dL_refuses_127 cl_8_73 mt_112 rfl (Nat.le_add_left _ _) rfl rfl rfl rfl hcs
theorem e125_130 : Rn X d 125 130 LS ST M h = Rn X d 125 131 LS (.int (zN 1) :: ST) M h := r_iconst mt_125 dL_refuses_130 c_ic1
theorem e125_131 : Rn X d 125 131 LS (.int y :: .int x :: ST) M h = Rn X d 125 132 LS (.int (x - y) :: ST) M h := r_isub mt_125 dL_refuses_131
theorem e125_132 : Rn X d 125 132 LS ST M h = Rn X d 125 133 LS (.int (zN 0) :: ST) M h := r_iconst mt_125 dL_refuses_132 c_ic0
theorem e125_133 (hcs : Nat.ble (j_cs ST) 8 = true) : Rn X (d + 1) 125 133 LS (.int y :: .int x :: .ref a :: ST) M h = q_k X (Rn X d 104 0 [some (.ref a), some (.int x), some (.int y), none] [] M (j_h0 h)) h (d + 1) 125 136 LS ST := s_callS (Or.inr (Or.inl rfl)) mt_125 dL_refuses_133 cl_8_131 mt_104 rfl (Nat.le_add_left _ _) rfl rfl rfl rfl hcs
theorem e125_136 : Rn X d 125 136 LS ST M h = Rn X d 125 138 LS (.int (zM 10) :: ST) M h := r_bipush mt_125 dL_refuses_136 c_bim11
theorem e125_138 : Rn X d 125 138 LS (.int y :: .int x :: ST) M h = q_eq X x y d 125 141 179 LS ST M h := s_icne mt_125 dL_refuses_138 rfl
theorem e125_141 : Rn X d 125 141 (some (.ref a) :: t) ST M h = Rn X d 125 142 (some (.ref a) :: t) (.ref a :: ST) M h := r_aload_n mt_125 dL_refuses_141 rfl
theorem e125_142 : Rn X d 125 142 LS ST M h = Rn X d 125 143 LS (.int (zN 2) :: ST) M h := r_iconst mt_125 dL_refuses_142 c_ic2
theorem e125_143 : Rn X d 125 143 LS ST M h = Rn X d 125 144 LS (.int (zN 1) :: ST) M h := r_iconst mt_125 dL_refuses_143 c_ic1
theorem e125_144 (hcs : Nat.ble (j_cs ST) 8 = true) : Rn X (d + 1) 125 144 LS (.int y :: .int x :: .ref a :: ST) M h = q_k X (Rn X d 105 0 [some (.ref a), some (.int x), some (.int y), none] [] M (j_h0 h)) h (d + 1) 125 147 LS ST := s_callS (Or.inr (Or.inl rfl)) mt_125 dL_refuses_144 cl_8_102 mt_105 rfl (Nat.le_add_left _ _) rfl rfl rfl rfl hcs
theorem e125_147 : Rn X d 125 147 LS ST M h = Rn X d 125 149 LS (.int (zM 10) :: ST) M h := r_bipush mt_125 dL_refuses_147 c_bim11
theorem e125_149 : Rn X d 125 149 LS (.int y :: .int x :: ST) M h = q_eq X x y d 125 152 179 LS ST M h := s_icne mt_125 dL_refuses_149 rfl
theorem e125_152 : Rn X d 125 152 (some (.ref a) :: t) ST M h = Rn X d 125 153 (some (.ref a) :: t) (.ref a :: ST) M h := r_aload_n mt_125 dL_refuses_152 rfl
theorem e125_153 : Rn X d 125 153 LS ST M h = Rn X d 125 154 LS (.int (zN 0) :: ST) M h := r_iconst mt_125 dL_refuses_153 c_ic0
theorem e125_154 : Rn X d 125 154 LS ST M h = Rn X d 125 155 LS (.int (zN 0) :: ST) M h := r_iconst mt_125 dL_refuses_154 c_ic0
theorem e125_155 (hcs : Nat.ble (j_cs ST) 8 = true) : Rn X (d + 1) 125 155 LS (.int y :: .int x :: .ref a :: ST) M h = q_k X (Rn X d 105 0 [some (.ref a), some (.int x), some (.int y), none] [] M (j_h0 h)) h (d + 1) 125 158 LS ST := s_callS (Or.inr (Or.inl rfl)) mt_125 dL_refuses_155 cl_8_102 mt_105 rfl (Nat.le_add_left _ _) rfl rfl rfl rfl hcs
theorem e125_158 : Rn X d 125 158 LS ST M h = Rn X d 125 160 LS (.int (zM 11) :: ST) M h := r_bipush mt_125 dL_refuses_158 c_bim12
theorem e125_160 : Rn X d 125 160 LS (.int y :: .int x :: ST) M h = q_eq X x y d 125 163 179 LS ST M h := s_icne mt_125 dL_refuses_160 rfl
theorem e125_163 : Rn X d 125 163 (some (.ref a) :: t) ST M h = Rn X d 125 164 (some (.ref a) :: t) (.ref a :: ST) M h := r_aload_n mt_125 dL_refuses_163 rfl
theorem e125_164 : Rn X d 125 164 LS ST M h = Rn X d 125 165 LS (.int (zN 1) :: ST) M h := r_iconst mt_125 dL_refuses_164 c_ic1
theorem e125_165 : Rn X d 125 165 LS ST M h = Rn X d 125 167 LS (.int (zN 100) :: ST) M h := r_bipush mt_125 dL_refuses_165 c_bi100
theorem e125_167 (hcs : Nat.ble (j_cs ST) 8 = true) : Rn X (d + 1) 125 167 LS (.int y :: .int x :: .ref a :: ST) M h = q_k X (Rn X d 105 0 [some (.ref a), some (.int x), some (.int y), none] [] M (j_h0 h)) h (d + 1) 125 170 LS ST := s_callS (Or.inr (Or.inl rfl)) mt_125 dL_refuses_167 cl_8_102 mt_105 rfl (Nat.le_add_left _ _) rfl rfl rfl rfl hcs
theorem e125_170 : Rn X d 125 170 LS ST M h = Rn X d 125 172 LS (.int (zM 11) :: ST) M h := r_bipush mt_125 dL_refuses_170 c_bim12
theorem e125_172 : Rn X d 125 172 LS (.int y :: .int x :: ST) M h = q_eq X x y d 125 175 179 LS ST M h := s_icne mt_125 dL_refuses_172 rfl
theorem e125_175 : Rn X d 125 175 LS ST M h = Rn X d 125 176 LS (.int (zN 1) :: ST) M h := r_iconst mt_125 dL_refuses_175 c_ic1
theorem e125_176 : Rn X d 125 176 LS ST M h = Rn X d 125 180 LS ST M h := r_goto mt_125 dL_refuses_176 rfl
theorem e125_179 : Rn X d 125 179 LS ST M h = Rn X d 125 180 LS (.int (zN 0) :: ST) M h := r_iconst mt_125 dL_refuses_179 c_ic0
theorem e125_180 (ho : j_one l3 = true) : Rn X d 125 180 (l0 :: l1 :: l2 :: l3 :: l4 :: t) (.int x :: ST) M h = Rn X d 125 182 (l0 :: l1 :: l2 :: l3 :: some (.int x) :: t) ST M h := r_istore mt_125 dL_refuses_180 (by show 4 < _; simp only [List.length_cons]; omega) ho rfl
theorem e125_182 : Rn X d 125 182 (l0 :: l1 :: l2 :: l3 :: some (.int x) :: t) ST M h = Rn X d 125 184 (l0 :: l1 :: l2 :: l3 :: some (.int x) :: t) (.int x :: ST) M h := r_iload mt_125 dL_refuses_182 rfl
theorem e125_184 : Rn X d 125 184 LS (.int x :: ST) M h = q_eq X x (zN 0) d 125 355 187 LS ST M h := s_ifeq mt_125 dL_refuses_184 rfl
theorem e125_187 : Rn X d 125 187 (some (.ref a) :: t) ST M h = Rn X d 125 188 (some (.ref a) :: t) (.ref a :: ST) M h := r_aload_n mt_125 dL_refuses_187 rfl
theorem e125_188 : Rn X d 125 188 LS ST M h = Rn X d 125 189 LS (.int (zM 0) :: ST) M h := r_iconst mt_125 dL_refuses_188 c_icm1
theorem e125_189 (hcs : Nat.ble (j_cs ST) 8 = true) : Rn X (d + 1) 125 189 LS (.int x :: .ref a :: ST) M h = q_k X (Rn X d 106 0 [some (.ref a), some (.int x), none] [] M (j_h0 h)) h (d + 1) 125 192 LS ST := s_callS (Or.inr (Or.inl rfl)) mt_125 dL_refuses_189 cl_8_109 mt_106 rfl (Nat.le_add_left _ _) rfl rfl rfl rfl hcs
theorem e125_192 : Rn X d 125 192 LS ST M h = Rn X d 125 194 LS (.int (zM 10) :: ST) M h := r_bipush mt_125 dL_refuses_192 c_bim11
theorem e125_194 : Rn X d 125 194 LS (.int y :: .int x :: ST) M h = q_eq X x y d 125 197 355 LS ST M h := s_icne mt_125 dL_refuses_194 rfl
theorem e125_197 : Rn X d 125 197 (some (.ref a) :: t) ST M h = Rn X d 125 198 (some (.ref a) :: t) (.ref a :: ST) M h := r_aload_n mt_125 dL_refuses_197 rfl
theorem e125_198 : Rn X d 125 198 LS ST M h = Rn X d 125 199 LS (.int (zN 2) :: ST) M h := r_iconst mt_125 dL_refuses_198 c_ic2
theorem e125_199 (hcs : Nat.ble (j_cs ST) 8 = true) : Rn X (d + 1) 125 199 LS (.int x :: .ref a :: ST) M h = q_k X (Rn X d 107 0 [some (.ref a), some (.int x), none] [] M (j_h0 h)) h (d + 1) 125 202 LS ST := s_callS (Or.inr (Or.inl rfl)) mt_125 dL_refuses_199 cl_8_107 mt_107 rfl (Nat.le_add_left _ _) rfl rfl rfl rfl hcs
theorem e125_202 : Rn X d 125 202 LS ST M h = Rn X d 125 204 LS (.int (zM 10) :: ST) M h := r_bipush mt_125 dL_refuses_202 c_bim11
theorem e125_204 : Rn X d 125 204 LS (.int y :: .int x :: ST) M h = q_eq X x y d 125 207 355 LS ST M h := s_icne mt_125 dL_refuses_204 rfl
theorem e125_207 : Rn X d 125 207 (some (.ref a) :: t) ST M h = Rn X d 125 208 (some (.ref a) :: t) (.ref a :: ST) M h := r_aload_n mt_125 dL_refuses_207 rfl
theorem e125_208 : Rn X d 125 208 LS ST M h = Rn X d 125 209 LS (.int (zN 2) :: ST) M h := r_iconst mt_125 dL_refuses_208 c_ic2
theorem e125_209 : Rn X d 125 209 LS ST M h = Rn X d 125 210 LS (.int (zN 1) :: ST) M h := r_iconst mt_125 dL_refuses_209 c_ic1
theorem e125_210 (hcs : Nat.ble (j_cs ST) 8 = true) : Rn X (d + 1) 125 210 LS (.int y :: .int x :: .ref a :: ST) M h = q_k X (Rn X d 108 0 [some (.ref a), some (.int x), some (.int y), none] [] M (j_h0 h)) h (d + 1) 125 213 LS ST := s_callS (Or.inr (Or.inl rfl)) mt_125 dL_refuses_210 cl_8_111 mt_108 rfl (Nat.le_add_left _ _) rfl rfl rfl rfl hcs
theorem e125_213 : Rn X d 125 213 LS ST M h = Rn X d 125 215 LS (.int (zM 10) :: ST) M h := r_bipush mt_125 dL_refuses_213 c_bim11
theorem e125_215 : Rn X d 125 215 LS (.int y :: .int x :: ST) M h = q_eq X x y d 125 218 355 LS ST M h := s_icne mt_125 dL_refuses_215 rfl
theorem e125_218 : Rn X d 125 218 (some (.ref a) :: t) ST M h = Rn X d 125 219 (some (.ref a) :: t) (.ref a :: ST) M h := r_aload_n mt_125 dL_refuses_218 rfl
theorem e125_219 : Rn X d 125 219 (l0 :: l1 :: l2 :: some (.int x) :: t) ST M h = Rn X d 125 220 (l0 :: l1 :: l2 :: some (.int x) :: t) (.int x :: ST) M h := r_iload_n mt_125 dL_refuses_219 rfl
theorem e125_220 : Rn X d 125 220 LS ST M h = Rn X d 125 222 LS (.int (zN 9) :: ST) M h := r_bipush mt_125 dL_refuses_220 c_bi9
theorem e125_222 (hcs : Nat.ble (j_cs ST) 8 = true) : Rn X (d + 1) 125 222 LS (.int y :: .int x :: .ref a :: ST) M h = q_k X (Rn X d 109 0 [some (.ref a), some (.int x), some (.int y), none] [] M (j_h0 h)) h (d + 1) 125 225 LS ST := s_callS (Or.inr (Or.inl rfl)) mt_125 dL_refuses_222 cl_8_84 mt_109 rfl (Nat.le_add_left _ _) rfl rfl rfl rfl hcs
theorem e125_225 : Rn X d 125 225 LS ST M h = Rn X d 125 227 LS (.int (zM 10) :: ST) M h := r_bipush mt_125 dL_refuses_225 c_bim11
theorem e125_227 : Rn X d 125 227 LS (.int y :: .int x :: ST) M h = q_eq X x y d 125 230 355 LS ST M h := s_icne mt_125 dL_refuses_227 rfl
theorem e125_230 : Rn X d 125 230 (some (.ref a) :: t) ST M h = Rn X d 125 231 (some (.ref a) :: t) (.ref a :: ST) M h := r_aload_n mt_125 dL_refuses_230 rfl
theorem e125_231 : Rn X d 125 231 LS ST M h = Rn X d 125 232 LS (.int (zN 2) :: ST) M h := r_iconst mt_125 dL_refuses_231 c_ic2
theorem e125_232 : Rn X d 125 232 LS ST M h = Rn X d 125 233 LS (.int (zN 0) :: ST) M h := r_iconst mt_125 dL_refuses_232 c_ic0
theorem e125_233 (hcs : Nat.ble (j_cs ST) 8 = true) : Rn X (d + 1) 125 233 LS (.int y :: .int x :: .ref a :: ST) M h = q_k X (Rn X d 110 0 [some (.ref a), some (.int x), some (.int y), none] [] M (j_h0 h)) h (d + 1) 125 236 LS ST := s_callS (Or.inr (Or.inl rfl)) mt_125 dL_refuses_233 cl_8_78 mt_110 rfl (Nat.le_add_left _ _) rfl rfl rfl rfl hcs
theorem e125_236 : Rn X d 125 236 LS ST M h = Rn X d 125 238 LS (.int (zM 10) :: ST) M h := r_bipush mt_125 dL_refuses_236 c_bim11
theorem e125_238 : Rn X d 125 238 LS (.int y :: .int x :: ST) M h = q_eq X x y d 125 241 355 LS ST M h := s_icne mt_125 dL_refuses_238 rfl
theorem e125_241 : Rn X d 125 241 (some (.ref a) :: t) ST M h = Rn X d 125 242 (some (.ref a) :: t) (.ref a :: ST) M h := r_aload_n mt_125 dL_refuses_241 rfl
theorem e125_242 : Rn X d 125 242 LS ST M h = Rn X d 125 243 LS (.int (zN 0) :: ST) M h := r_iconst mt_125 dL_refuses_242 c_ic0
theorem e125_243 : Rn X d 125 243 LS ST M h = Rn X d 125 245 LS (.int (zN 6) :: ST) M h := r_bipush mt_125 dL_refuses_243 c_bi6
theorem e125_245 (hcs : Nat.ble (j_cs ST) 8 = true) : Rn X (d + 1) 125 245 LS (.int y :: .int x :: .ref a :: ST) M h = q_k X (Rn X d 110 0 [some (.ref a), some (.int x), some (.int y), none] [] M (j_h0 h)) h (d + 1) 125 248 LS ST := s_callS (Or.inr (Or.inl rfl)) mt_125 dL_refuses_245 cl_8_78 mt_110 rfl (Nat.le_add_left _ _) rfl rfl rfl rfl hcs
theorem e125_248 : Rn X d 125 248 LS ST M h = Rn X d 125 250 LS (.int (zM 11) :: ST) M h := r_bipush mt_125 dL_refuses_248 c_bim12
theorem e125_250 : Rn X d 125 250 LS (.int y :: .int x :: ST) M h = q_eq X x y d 125 253 355 LS ST M h := s_icne mt_125 dL_refuses_250 rfl
theorem e125_253 : Rn X d 125 253 (some (.ref a) :: t) ST M h = Rn X d 125 254 (some (.ref a) :: t) (.ref a :: ST) M h := r_aload_n mt_125 dL_refuses_253 rfl
theorem e125_254 : Rn X d 125 254 LS ST M h = Rn X d 125 255 LS (.int (zN 0) :: ST) M h := r_iconst mt_125 dL_refuses_254 c_ic0
theorem e125_255 : Rn X d 125 255 LS ST M h = Rn X d 125 257 LS (.int (zN 8) :: ST) M h := r_bipush mt_125 dL_refuses_255 c_bi8
theorem e125_257 (hcs : Nat.ble (j_cs ST) 8 = true) : Rn X (d + 1) 125 257 LS (.int y :: .int x :: .ref a :: ST) M h = q_k X (Rn X d 111 0 [some (.ref a), some (.int x), some (.int y), none] [] M (j_h0 h)) h (d + 1) 125 260 LS ST := s_callS (Or.inr (Or.inl rfl)) mt_125 dL_refuses_257 cl_8_90 mt_111 rfl (Nat.le_add_left _ _) rfl rfl rfl rfl hcs
theorem e125_260 : Rn X d 125 260 LS ST M h = Rn X d 125 262 LS (.int (zM 10) :: ST) M h := r_bipush mt_125 dL_refuses_260 c_bim11
theorem e125_262 : Rn X d 125 262 LS (.int y :: .int x :: ST) M h = q_eq X x y d 125 265 355 LS ST M h := s_icne mt_125 dL_refuses_262 rfl
theorem e125_265 : Rn X d 125 265 (some (.ref a) :: t) ST M h = Rn X d 125 266 (some (.ref a) :: t) (.ref a :: ST) M h := r_aload_n mt_125 dL_refuses_265 rfl
theorem e125_266 : Rn X d 125 266 LS ST M h = Rn X d 125 267 LS (.int (zM 0) :: ST) M h := r_iconst mt_125 dL_refuses_266 c_icm1
theorem e125_267 : Rn X d 125 267 LS ST M h = Rn X d 125 268 LS (.int (zN 0) :: ST) M h := r_iconst mt_125 dL_refuses_267 c_ic0
theorem e125_268 (hcs : Nat.ble (j_cs ST) 8 = true) : Rn X (d + 1) 125 268 LS (.int y :: .int x :: .ref a :: ST) M h = q_k X (Rn X d 111 0 [some (.ref a), some (.int x), some (.int y), none] [] M (j_h0 h)) h (d + 1) 125 271 LS ST := s_callS (Or.inr (Or.inl rfl)) mt_125 dL_refuses_268 cl_8_90 mt_111 rfl (Nat.le_add_left _ _) rfl rfl rfl rfl hcs
theorem e125_271 : Rn X d 125 271 LS ST M h = Rn X d 125 273 LS (.int (zM 10) :: ST) M h := r_bipush mt_125 dL_refuses_271 c_bim11
theorem e125_273 : Rn X d 125 273 LS (.int y :: .int x :: ST) M h = q_eq X x y d 125 276 355 LS ST M h := s_icne mt_125 dL_refuses_273 rfl
theorem e125_276 : Rn X d 125 276 (some (.ref a) :: t) ST M h = Rn X d 125 277 (some (.ref a) :: t) (.ref a :: ST) M h := r_aload_n mt_125 dL_refuses_276 rfl
theorem e125_277 : Rn X d 125 277 LS ST M h = Rn X d 125 279 LS (.int (zN 7) :: ST) M h := r_bipush mt_125 dL_refuses_277 c_bi7
theorem e125_279 (hcs : Nat.ble (j_cs ST) 8 = true) : Rn X (d + 1) 125 279 LS (.int x :: .ref a :: ST) M h = q_k X (Rn X d 112 0 [some (.ref a), some (.int x), none] [] M (j_h0 h)) h (d + 1) 125 282 LS ST := s_callS (Or.inr (Or.inl rfl)) mt_125 dL_refuses_279 cl_8_73 mt_112 rfl (Nat.le_add_left _ _) rfl rfl rfl rfl hcs
theorem e125_282 : Rn X d 125 282 LS ST M h = Rn X d 125 284 LS (.int (zM 10) :: ST) M h := r_bipush mt_125 dL_refuses_282 c_bim11
theorem e125_284 : Rn X d 125 284 LS (.int y :: .int x :: ST) M h = q_eq X x y d 125 287 355 LS ST M h := s_icne mt_125 dL_refuses_284 rfl
theorem e125_287 : Rn X d 125 287 (some (.ref a) :: t) ST M h = Rn X d 125 288 (some (.ref a) :: t) (.ref a :: ST) M h := r_aload_n mt_125 dL_refuses_287 rfl
theorem e125_288 : Rn X d 125 288 LS ST M h = Rn X d 125 289 LS (.int (zN 2) :: ST) M h := r_iconst mt_125 dL_refuses_288 c_ic2
theorem e125_289 (hcs : Nat.ble (j_cs ST) 8 = true) : Rn X (d + 1) 125 289 LS (.int x :: .ref a :: ST) M h = q_k X (Rn X d 113 0 [some (.ref a), some (.int x), none] [] M (j_h0 h)) h (d + 1) 125 292 LS ST := s_callS (Or.inr (Or.inl rfl)) mt_125 dL_refuses_289 cl_8_92 mt_113 rfl (Nat.le_add_left _ _) rfl rfl rfl rfl hcs
theorem e125_292 : Rn X d 125 292 LS ST M h = Rn X d 125 294 LS (.int (zM 10) :: ST) M h := r_bipush mt_125 dL_refuses_292 c_bim11
theorem e125_294 : Rn X d 125 294 LS (.int y :: .int x :: ST) M h = q_eq X x y d 125 297 355 LS ST M h := s_icne mt_125 dL_refuses_294 rfl
theorem e125_297 : Rn X d 125 297 (some (.ref a) :: t) ST M h = Rn X d 125 298 (some (.ref a) :: t) (.ref a :: ST) M h := r_aload_n mt_125 dL_refuses_297 rfl
theorem e125_298 : Rn X d 125 298 LS ST M h = Rn X d 125 299 LS (.int (zM 0) :: ST) M h := r_iconst mt_125 dL_refuses_298 c_icm1
theorem e125_299 (hcs : Nat.ble (j_cs ST) 8 = true) : Rn X (d + 1) 125 299 LS (.int x :: .ref a :: ST) M h = q_k X (Rn X d 114 0 [some (.ref a), some (.int x), none] [] M (j_h0 h)) h (d + 1) 125 302 LS ST := s_callS (Or.inr (Or.inl rfl)) mt_125 dL_refuses_299 cl_8_86 mt_114 rfl (Nat.le_add_left _ _) rfl rfl rfl rfl hcs
theorem e125_302 : Rn X d 125 302 LS ST M h = Rn X d 125 304 LS (.int (zM 10) :: ST) M h := r_bipush mt_125 dL_refuses_302 c_bim11
theorem e125_304 : Rn X d 125 304 LS (.int y :: .int x :: ST) M h = q_eq X x y d 125 307 355 LS ST M h := s_icne mt_125 dL_refuses_304 rfl
theorem e125_307 : Rn X d 125 307 (some (.ref a) :: t) ST M h = Rn X d 125 308 (some (.ref a) :: t) (.ref a :: ST) M h := r_aload_n mt_125 dL_refuses_307 rfl
theorem e125_308 : Rn X d 125 308 LS ST M h = Rn X d 125 309 LS (.int (zN 0) :: ST) M h := r_iconst mt_125 dL_refuses_308 c_ic0
theorem e125_309 : Rn X d 125 309 LS ST M h = Rn X d 125 311 LS (.int (zN 8) :: ST) M h := r_bipush mt_125 dL_refuses_309 c_bi8
theorem e125_311 (hcs : Nat.ble (j_cs ST) 8 = true) : Rn X (d + 1) 125 311 LS (.int y :: .int x :: .ref a :: ST) M h = q_k X (Rn X d 115 0 [some (.ref a), some (.int x), some (.int y), none] [] M (j_h0 h)) h (d + 1) 125 314 LS ST := s_callS (Or.inr (Or.inl rfl)) mt_125 dL_refuses_311 cl_8_88 mt_115 rfl (Nat.le_add_left _ _) rfl rfl rfl rfl hcs
theorem e125_314 : Rn X d 125 314 LS ST M h = Rn X d 125 316 LS (.int (zM 10) :: ST) M h := r_bipush mt_125 dL_refuses_314 c_bim11
theorem e125_316 : Rn X d 125 316 LS (.int y :: .int x :: ST) M h = q_eq X x y d 125 319 355 LS ST M h := s_icne mt_125 dL_refuses_316 rfl
theorem e125_319 : Rn X d 125 319 (some (.ref a) :: t) ST M h = Rn X d 125 320 (some (.ref a) :: t) (.ref a :: ST) M h := r_aload_n mt_125 dL_refuses_319 rfl
theorem e125_320 : Rn X d 125 320 LS ST M h = Rn X d 125 321 LS (.int (zN 2) :: ST) M h := r_iconst mt_125 dL_refuses_320 c_ic2
theorem e125_321 (hcs : Nat.ble (j_cs ST) 8 = true) : Rn X (d + 1) 125 321 LS (.int x :: .ref a :: ST) M h = q_k X (Rn X d 116 0 [some (.ref a), some (.int x), none] [] M (j_h0 h)) h (d + 1) 125 324 LS ST := s_callS (Or.inr (Or.inl rfl)) mt_125 dL_refuses_321 cl_8_94 mt_116 rfl (Nat.le_add_left _ _) rfl rfl rfl rfl hcs
theorem e125_324 : Rn X d 125 324 LS ST M h = Rn X d 125 326 LS (.int (zM 10) :: ST) M h := r_bipush mt_125 dL_refuses_324 c_bim11
theorem e125_326 : Rn X d 125 326 LS (.int y :: .int x :: ST) M h = q_eq X x y d 125 329 355 LS ST M h := s_icne mt_125 dL_refuses_326 rfl
theorem e125_329 : Rn X d 125 329 (some (.ref a) :: t) ST M h = Rn X d 125 330 (some (.ref a) :: t) (.ref a :: ST) M h := r_aload_n mt_125 dL_refuses_329 rfl
theorem e125_330 : Rn X d 125 330 LS ST M h = Rn X d 125 331 LS (.int (zM 0) :: ST) M h := r_iconst mt_125 dL_refuses_330 c_icm1
theorem e125_331 (hcs : Nat.ble (j_cs ST) 8 = true) : Rn X (d + 1) 125 331 LS (.int x :: .ref a :: ST) M h = q_k X (Rn X d 117 0 [some (.ref a), some (.int x), none] [] M (j_h0 h)) h (d + 1) 125 334 LS ST := s_callS (Or.inr (Or.inl rfl)) mt_125 dL_refuses_331 cl_8_120 mt_117 rfl (Nat.le_add_left _ _) rfl rfl rfl rfl hcs
theorem e125_334 : Rn X d 125 334 LS ST M h = Rn X d 125 336 LS (.int (zM 10) :: ST) M h := r_bipush mt_125 dL_refuses_334 c_bim11
theorem e125_336 : Rn X d 125 336 LS (.int y :: .int x :: ST) M h = q_eq X x y d 125 339 355 LS ST M h := s_icne mt_125 dL_refuses_336 rfl
theorem e125_339 : Rn X d 125 339 (some (.ref a) :: t) ST M h = Rn X d 125 340 (some (.ref a) :: t) (.ref a :: ST) M h := r_aload_n mt_125 dL_refuses_339 rfl
theorem e125_340 : Rn X d 125 340 LS ST M h = Rn X d 125 343 LS (.int (zN 128) :: ST) M h := r_sipush mt_125 dL_refuses_340 c_si128
theorem e125_343 (hcs : Nat.ble (j_cs ST) 8 = true) : Rn X (d + 1) 125 343 LS (.int x :: .ref a :: ST) M h = q_k X (Rn X d 117 0 [some (.ref a), some (.int x), none] [] M (j_h0 h)) h (d + 1) 125 346 LS ST := s_callS (Or.inr (Or.inl rfl)) mt_125 dL_refuses_343 cl_8_120 mt_117 rfl (Nat.le_add_left _ _) rfl rfl rfl rfl hcs
theorem e125_346 : Rn X d 125 346 LS ST M h = Rn X d 125 348 LS (.int (zM 10) :: ST) M h := r_bipush mt_125 dL_refuses_346 c_bim11
theorem e125_348 : Rn X d 125 348 LS (.int y :: .int x :: ST) M h = q_eq X x y d 125 351 355 LS ST M h := s_icne mt_125 dL_refuses_348 rfl
theorem e125_351 : Rn X d 125 351 LS ST M h = Rn X d 125 352 LS (.int (zN 1) :: ST) M h := r_iconst mt_125 dL_refuses_351 c_ic1
theorem e125_352 : Rn X d 125 352 LS ST M h = Rn X d 125 356 LS ST M h := r_goto mt_125 dL_refuses_352 rfl
theorem e125_355 : Rn X d 125 355 LS ST M h = Rn X d 125 356 LS (.int (zN 0) :: ST) M h := r_iconst mt_125 dL_refuses_355 c_ic0
theorem e125_356 (ho : j_one l3 = true) : Rn X d 125 356 (l0 :: l1 :: l2 :: l3 :: l4 :: t) (.int x :: ST) M h = Rn X d 125 358 (l0 :: l1 :: l2 :: l3 :: some (.int x) :: t) ST M h := r_istore mt_125 dL_refuses_356 (by show 4 < _; simp only [List.length_cons]; omega) ho rfl
theorem e125_358 : Rn X d 125 358 (l0 :: l1 :: l2 :: l3 :: some (.int x) :: t) ST M h = Rn X d 125 360 (l0 :: l1 :: l2 :: l3 :: some (.int x) :: t) (.int x :: ST) M h := r_iload mt_125 dL_refuses_358 rfl
theorem e125_360 : Rn X d 125 360 LS (.int x :: ST) M h = q_eq X x (zN 0) d 125 428 363 LS ST M h := s_ifeq mt_125 dL_refuses_360 rfl
theorem e125_363 : Rn X d 125 363 (some (.ref a) :: t) ST M h = Rn X d 125 364 (some (.ref a) :: t) (.ref a :: ST) M h := r_aload_n mt_125 dL_refuses_363 rfl
theorem e125_364 : Rn X d 125 364 LS ST M h = Rn X d 125 365 LS (.int (zN 3) :: ST) M h := r_iconst mt_125 dL_refuses_364 c_ic3
theorem e125_365 (hcs : Nat.ble (j_cs ST) 8 = true) : Rn X (d + 1) 125 365 LS (.int x :: .ref a :: ST) M h = q_k X (Rn X d 112 0 [some (.ref a), some (.int x), none] [] M (j_h0 h)) h (d + 1) 125 368 LS ST := s_callS (Or.inr (Or.inl rfl)) mt_125 dL_refuses_365 cl_8_73 mt_112 rfl (Nat.le_add_left _ _) rfl rfl rfl rfl hcs
theorem e125_368 : Rn X d 125 368 LS (.int x :: ST) M h = q_eq X x (zN 0) d 125 398 371 LS ST M h := s_ifeq mt_125 dL_refuses_368 rfl
theorem e125_371 : Rn X d 125 371 (some (.ref a) :: t) ST M h = Rn X d 125 372 (some (.ref a) :: t) (.ref a :: ST) M h := r_aload_n mt_125 dL_refuses_371 rfl
theorem e125_372 : Rn X d 125 372 (l0 :: l1 :: l2 :: some (.int x) :: t) ST M h = Rn X d 125 373 (l0 :: l1 :: l2 :: some (.int x) :: t) (.int x :: ST) M h := r_iload_n mt_125 dL_refuses_372 rfl
theorem e125_373 : Rn X d 125 373 LS ST M h = Rn X d 125 374 LS (.int (zN 1) :: ST) M h := r_iconst mt_125 dL_refuses_373 c_ic1
theorem e125_374 : Rn X d 125 374 LS (.int y :: .int x :: ST) M h = Rn X d 125 375 LS (.int (x - y) :: ST) M h := r_isub mt_125 dL_refuses_374
theorem e125_375 : Rn X d 125 375 LS ST M h = Rn X d 125 376 LS (.int (zN 2) :: ST) M h := r_iconst mt_125 dL_refuses_375 c_ic2
theorem e125_376 (hcs : Nat.ble (j_cs ST) 8 = true) : Rn X (d + 1) 125 376 LS (.int y :: .int x :: .ref a :: ST) M h = q_k X (Rn X d 104 0 [some (.ref a), some (.int x), some (.int y), none] [] M (j_h0 h)) h (d + 1) 125 379 LS ST := s_callS (Or.inr (Or.inl rfl)) mt_125 dL_refuses_376 cl_8_131 mt_104 rfl (Nat.le_add_left _ _) rfl rfl rfl rfl hcs
theorem e125_379 : Rn X d 125 379 LS ST M h = Rn X d 125 381 LS (.int (zM 11) :: ST) M h := r_bipush mt_125 dL_refuses_379 c_bim12
theorem e125_381 : Rn X d 125 381 LS (.int y :: .int x :: ST) M h = q_eq X x y d 125 384 428 LS ST M h := s_icne mt_125 dL_refuses_381 rfl
theorem e125_384 : Rn X d 125 384 (some (.ref a) :: t) ST M h = Rn X d 125 385 (some (.ref a) :: t) (.ref a :: ST) M h := r_aload_n mt_125 dL_refuses_384 rfl
theorem e125_385 : Rn X d 125 385 (l0 :: l1 :: l2 :: some (.int x) :: t) ST M h = Rn X d 125 386 (l0 :: l1 :: l2 :: some (.int x) :: t) (.int x :: ST) M h := r_iload_n mt_125 dL_refuses_385 rfl
theorem e125_386 : Rn X d 125 386 LS ST M h = Rn X d 125 387 LS (.int (zN 1) :: ST) M h := r_iconst mt_125 dL_refuses_386 c_ic1
theorem e125_387 : Rn X d 125 387 LS (.int y :: .int x :: ST) M h = Rn X d 125 388 LS (.int (x - y) :: ST) M h := r_isub mt_125 dL_refuses_387
theorem e125_388 : Rn X d 125 388 LS ST M h = Rn X d 125 390 LS (.int (zN 6) :: ST) M h := r_bipush mt_125 dL_refuses_388 c_bi6
theorem e125_390 (hcs : Nat.ble (j_cs ST) 8 = true) : Rn X (d + 1) 125 390 LS (.int y :: .int x :: .ref a :: ST) M h = q_k X (Rn X d 109 0 [some (.ref a), some (.int x), some (.int y), none] [] M (j_h0 h)) h (d + 1) 125 393 LS ST := s_callS (Or.inr (Or.inl rfl)) mt_125 dL_refuses_390 cl_8_84 mt_109 rfl (Nat.le_add_left _ _) rfl rfl rfl rfl hcs
theorem e125_393 : Rn X d 125 393 LS ST M h = Rn X d 125 395 LS (.int (zM 11) :: ST) M h := r_bipush mt_125 dL_refuses_393 c_bim12
theorem e125_395 : Rn X d 125 395 LS (.int y :: .int x :: ST) M h = q_eq X x y d 125 398 428 LS ST M h := s_icne mt_125 dL_refuses_395 rfl
theorem e125_398 : Rn X d 125 398 (some (.ref a) :: t) ST M h = Rn X d 125 399 (some (.ref a) :: t) (.ref a :: ST) M h := r_aload_n mt_125 dL_refuses_398 rfl
theorem e125_399 : Rn X d 125 399 LS ST M h = Rn X d 125 400 LS (.int (zN 3) :: ST) M h := r_iconst mt_125 dL_refuses_399 c_ic3
theorem e125_400 (hcs : Nat.ble (j_cs ST) 8 = true) : Rn X (d + 1) 125 400 LS (.int x :: .ref a :: ST) M h = q_k X (Rn X d 112 0 [some (.ref a), some (.int x), none] [] M (j_h0 h)) h (d + 1) 125 403 LS ST := s_callS (Or.inr (Or.inl rfl)) mt_125 dL_refuses_400 cl_8_73 mt_112 rfl (Nat.le_add_left _ _) rfl rfl rfl rfl hcs
theorem e125_403 : Rn X d 125 403 (some (.ref a) :: t) ST M h = Rn X d 125 404 (some (.ref a) :: t) (.ref a :: ST) M h := r_aload_n mt_125 dL_refuses_403 rfl
theorem e125_404 : Rn X d 125 404 LS ST M h = Rn X d 125 405 LS (.int (zN 0) :: ST) M h := r_iconst mt_125 dL_refuses_404 c_ic0
theorem e125_405 (hcs : Nat.ble (j_cs ST) 8 = true) : Rn X (d + 1) 125 405 LS (.int x :: .ref a :: ST) M h = q_k X (Rn X d 112 0 [some (.ref a), some (.int x), none] [] M (j_h0 h)) h (d + 1) 125 408 LS ST := s_callS (Or.inr (Or.inl rfl)) mt_125 dL_refuses_405 cl_8_73 mt_112 rfl (Nat.le_add_left _ _) rfl rfl rfl rfl hcs
theorem e125_408 : Rn X d 125 408 LS (.int y :: .int x :: ST) M h = q_lt X x y d 125 424 411 LS ST M h := s_iclt mt_125 dL_refuses_408 rfl
theorem e125_411 : Rn X d 125 411 (some (.ref a) :: t) ST M h = Rn X d 125 412 (some (.ref a) :: t) (.ref a :: ST) M h := r_aload_n mt_125 dL_refuses_411 rfl
theorem e125_412 : Rn X d 125 412 LS ST M h = Rn X d 125 413 LS (.int (zN 0) :: ST) M h := r_iconst mt_125 dL_refuses_412 c_ic0
theorem e125_413 : Rn X d 125 413 LS ST M h = Rn X d 125 414 LS (.int (zN 0) :: ST) M h := r_iconst mt_125 dL_refuses_413 c_ic0
theorem e125_414 : Rn X d 125 414 LS ST M h = Rn X d 125 415 LS (.int (zN 0) :: ST) M h := r_iconst mt_125 dL_refuses_414 c_ic0
theorem e125_415 : Rn X d 125 415 LS ST M h = Rn X d 125 416 LS (.int (zN 1) :: ST) M h := r_iconst mt_125 dL_refuses_415 c_ic1
theorem e125_416 (hcs : Nat.ble (j_cs ST) 8 = true) : Rn X (d + 1) 125 416 LS (.int w :: .int z :: .int y :: .int x :: .ref a :: ST) M h = q_k X (Rn X d 103 0 [some (.ref a), some (.int x), some (.int y), some (.int z), some (.int w), none] [] M (j_h0 h)) h (d + 1) 125 419 LS ST := s_callS (Or.inr (Or.inl rfl)) mt_125 dL_refuses_416 cl_8_122 mt_103 rfl (Nat.le_add_left _ _) rfl rfl rfl rfl hcs
theorem e125_419 : Rn X d 125 419 LS ST M h = Rn X d 125 421 LS (.int (zM 11) :: ST) M h := r_bipush mt_125 dL_refuses_419 c_bim12
theorem e125_421 : Rn X d 125 421 LS (.int y :: .int x :: ST) M h = q_eq X x y d 125 424 428 LS ST M h := s_icne mt_125 dL_refuses_421 rfl
theorem e125_424 : Rn X d 125 424 LS ST M h = Rn X d 125 425 LS (.int (zN 1) :: ST) M h := r_iconst mt_125 dL_refuses_424 c_ic1
theorem e125_425 : Rn X d 125 425 LS ST M h = Rn X d 125 429 LS ST M h := r_goto mt_125 dL_refuses_425 rfl
theorem e125_428 : Rn X d 125 428 LS ST M h = Rn X d 125 429 LS (.int (zN 0) :: ST) M h := r_iconst mt_125 dL_refuses_428 c_ic0
theorem e125_429 (ho : j_one l3 = true) : Rn X d 125 429 (l0 :: l1 :: l2 :: l3 :: l4 :: t) (.int x :: ST) M h = Rn X d 125 431 (l0 :: l1 :: l2 :: l3 :: some (.int x) :: t) ST M h := r_istore mt_125 dL_refuses_429 (by show 4 < _; simp only [List.length_cons]; omega) ho rfl
theorem e125_431 : Rn X d 125 431 (l0 :: l1 :: l2 :: l3 :: some (.int x) :: t) ST M h = Rn X d 125 433 (l0 :: l1 :: l2 :: l3 :: some (.int x) :: t) (.int x :: ST) M h := r_iload mt_125 dL_refuses_431 rfl
theorem e125_433 : Rn X d 125 433 LS (.int x :: ST) M h = q_eq X x (zN 0) d 125 449 436 LS ST M h := s_ifeq mt_125 dL_refuses_433 rfl
theorem e125_436 : Rn X d 125 436 (some (.ref a) :: t) ST M h = Rn X d 125 437 (some (.ref a) :: t) (.ref a :: ST) M h := r_aload_n mt_125 dL_refuses_436 rfl
theorem e125_437 (hcs : Nat.ble (j_cs ST) 8 = true) : Rn X (d + 1) 125 437 LS (.ref a :: ST) M h = j_rc (M a) 4 (q_k X (Rn X d 85 0 [some (.ref a), none, none, none] [] M (j_h0 h)) h (d + 1) 125 440 LS ST) := s_callV mt_125 dL_refuses_437 cl_8_125 mt_85 rfl rfl (Nat.le_add_left _ _) rfl rfl rfl rfl hcs
theorem e125_440 : Rn X d 125 440 (l0 :: some (.long p) :: t) ST M h = Rn X d 125 441 (l0 :: some (.long p) :: t) (.long p :: ST) M h := r_lload_n mt_125 dL_refuses_440 rfl
theorem e125_441 : Rn X d 125 441 LS (.long q :: .long p :: ST) M h = Rn X d 125 442 LS (.int (lg_cmp p q) :: ST) M h := r_lcmp mt_125 dL_refuses_441
theorem e125_442 : Rn X d 125 442 LS (.int x :: ST) M h = q_eq X x (zN 0) d 125 445 449 LS ST M h := s_ifne mt_125 dL_refuses_442 rfl
theorem e125_445 : Rn X d 125 445 LS ST M h = Rn X d 125 446 LS (.int (zN 1) :: ST) M h := r_iconst mt_125 dL_refuses_445 c_ic1
theorem e125_446 : Rn X d 125 446 LS ST M h = Rn X d 125 450 LS ST M h := r_goto mt_125 dL_refuses_446 rfl
theorem e125_449 : Rn X d 125 449 LS ST M h = Rn X d 125 450 LS (.int (zN 0) :: ST) M h := r_iconst mt_125 dL_refuses_449 c_ic0
theorem e125_450 {v : Nat} (h0 : v < 2) : Rn X d 125 450 LS ([.int (zN v)]) M h = some (.inl (some (.int (zN v))), M, h) := s_zret mt_125 dL_refuses_450 rfl h0
end
