/-! one rule an instruction, printed by wip/whole/gen25.py -/
section
variable {X : jX} {d : Nat} {l0 l1 l2 l3 l4 l5 l6 l7 l8 l9 l10 l11 : Option Value} {LS t : jL} {ST : List Value} {M : jM} {h : jH} {x y z w u : Int32} {a b c e : Nat} {p q : Int64} {f g : UInt64}
theorem e132_0 : Rn X d 132 0 (some (.ref a) :: t) ST M h = Rn X d 132 1 (some (.ref a) :: t) (.ref a :: ST) M h := r_aload_n mt_132 dX5_replay_0 rfl
theorem e132_1 (hcs : Nat.ble (j_cs ST) 8 = true) : Rn X (d + 1) 132 1 LS (.ref a :: ST) M h = j_rc (M a) 5 (q_k X (Rn X d 114 0 [some (.ref a), none] [] M (j_h0 h)) h (d + 1) 132 4 LS ST) := s_callV mt_132 dX5_replay_1 cl_5_91 mt_114 rfl rfl (Nat.le_add_left _ _) rfl rfl rfl rfl hcs
theorem e132_4 : Rn X d 132 4 (some (.ref a) :: t) ST M h = Rn X d 132 5 (some (.ref a) :: t) (.ref a :: ST) M h := r_aload_n mt_132 dX5_replay_4 rfl
theorem e132_5 : Rn X d 132 5 (some (.ref a) :: t) ST M h = Rn X d 132 6 (some (.ref a) :: t) (.ref a :: ST) M h := r_aload_n mt_132 dX5_replay_5 rfl
theorem e132_6 : Rn X d 132 6 (l0 :: some (.int x) :: t) ST M h = Rn X d 132 7 (l0 :: some (.int x) :: t) (.int x :: ST) M h := r_iload_n mt_132 dX5_replay_6 rfl
theorem e132_7 : Rn X d 132 7 (l0 :: l1 :: some (.int x) :: t) ST M h = Rn X d 132 8 (l0 :: l1 :: some (.int x) :: t) (.int x :: ST) M h := r_iload_n mt_132 dX5_replay_7 rfl
theorem e132_8 (hcs : Nat.ble (j_cs ST) 8 = true) : Rn X (d + 1) 132 8 LS (.int y :: .int x :: .ref a :: ST) M h = j_rc (M a) 5 (q_k X (Rn X d 123 0 [some (.ref a), some (.int x), some (.int y), none, none] [] M (j_h0 h)) h (d + 1) 132 11 LS ST) := s_callV mt_132 dX5_replay_8 cl_5_110 mt_123 rfl rfl (Nat.le_add_left _ _) rfl rfl rfl rfl hcs
theorem e132_11 (hcs : Nat.ble (j_cs ST) 8 = true) : Rn X (d + 1) 132 11 LS (.int x :: .ref a :: ST) M h = j_rc (M a) 5 (q_k X (Rn X d 116 0 [some (.ref a), some (.int x)] [] M (j_h0 h)) h (d + 1) 132 14 LS ST) := s_callV mt_132 dX5_replay_11 cl_5_98 mt_116 rfl rfl (Nat.le_add_left _ _) rfl rfl rfl rfl hcs
theorem e132_14 : Rn X d 132 14 LS ([.int x]) M h = some (.inl (some (.int x)), M, h) := r_iret mt_132 dX5_replay_14 rfl
theorem e133_0 : Rn X d 133 0 (some (.ref a) :: t) ST M h = Rn X d 133 1 (some (.ref a) :: t) (.ref a :: ST) M h := r_aload_n mt_133 dX5_snapshot_0 rfl
theorem e133_1 (hcs : Nat.ble (j_cs ST) 8 = true) : Rn X (d + 1) 133 1 LS (.ref a :: ST) M h = j_rc (M a) 5 (q_k X (Rn X d 114 0 [some (.ref a), none] [] M (j_h0 h)) h (d + 1) 133 4 LS ST) := s_callV mt_133 dX5_snapshot_1 cl_5_91 mt_114 rfl rfl (Nat.le_add_left _ _) rfl rfl rfl rfl hcs
theorem e133_4 : Rn X d 133 4 (some (.ref a) :: t) ST M h = Rn X d 133 5 (some (.ref a) :: t) (.ref a :: ST) M h := r_aload_n mt_133 dX5_snapshot_4 rfl
theorem e133_5 : Rn X d 133 5 (some (.ref a) :: t) ST M h = Rn X d 133 6 (some (.ref a) :: t) (.ref a :: ST) M h := r_aload_n mt_133 dX5_snapshot_5 rfl
theorem e133_6 : Rn X d 133 6 (l0 :: some (.int x) :: t) ST M h = Rn X d 133 7 (l0 :: some (.int x) :: t) (.int x :: ST) M h := r_iload_n mt_133 dX5_snapshot_6 rfl
theorem e133_7 (hcs : Nat.ble (j_cs ST) 8 = true) : Rn X (d + 1) 133 7 LS (.int x :: .ref a :: ST) M h = j_rc (M a) 5 (q_k X (Rn X d 124 0 [some (.ref a), some (.int x), none] [] M (j_h0 h)) h (d + 1) 133 10 LS ST) := s_callV mt_133 dX5_snapshot_7 cl_5_113 mt_124 rfl rfl (Nat.le_add_left _ _) rfl rfl rfl rfl hcs
theorem e133_10 (hcs : Nat.ble (j_cs ST) 8 = true) : Rn X (d + 1) 133 10 LS (.int x :: .ref a :: ST) M h = j_rc (M a) 5 (q_k X (Rn X d 116 0 [some (.ref a), some (.int x)] [] M (j_h0 h)) h (d + 1) 133 13 LS ST) := s_callV mt_133 dX5_snapshot_10 cl_5_98 mt_116 rfl rfl (Nat.le_add_left _ _) rfl rfl rfl rfl hcs
theorem e133_13 : Rn X d 133 13 LS ([.int x]) M h = some (.inl (some (.int x)), M, h) := r_iret mt_133 dX5_snapshot_13 rfl
theorem e134_0 : Rn X d 134 0 (some (.ref a) :: t) ST M h = Rn X d 134 1 (some (.ref a) :: t) (.ref a :: ST) M h := r_aload_n mt_134 dX5_crash_0 rfl
theorem e134_1 (hcs : Nat.ble (j_cs ST) 8 = true) : Rn X (d + 1) 134 1 LS (.ref a :: ST) M h = j_rc (M a) 5 (q_k X (Rn X d 114 0 [some (.ref a), none] [] M (j_h0 h)) h (d + 1) 134 4 LS ST) := s_callV mt_134 dX5_crash_1 cl_5_91 mt_114 rfl rfl (Nat.le_add_left _ _) rfl rfl rfl rfl hcs
theorem e134_4 : Rn X d 134 4 (some (.ref a) :: t) ST M h = Rn X d 134 5 (some (.ref a) :: t) (.ref a :: ST) M h := r_aload_n mt_134 dX5_crash_4 rfl
theorem e134_5 : Rn X d 134 5 (some (.ref a) :: t) ST M h = Rn X d 134 6 (some (.ref a) :: t) (.ref a :: ST) M h := r_aload_n mt_134 dX5_crash_5 rfl
theorem e134_6 : Rn X d 134 6 (l0 :: some (.int x) :: t) ST M h = Rn X d 134 7 (l0 :: some (.int x) :: t) (.int x :: ST) M h := r_iload_n mt_134 dX5_crash_6 rfl
theorem e134_7 (hcs : Nat.ble (j_cs ST) 8 = true) : Rn X (d + 1) 134 7 LS (.int x :: .ref a :: ST) M h = j_rc (M a) 5 (q_k X (Rn X d 125 0 [some (.ref a), some (.int x), none] [] M (j_h0 h)) h (d + 1) 134 10 LS ST) := s_callV mt_134 dX5_crash_7 cl_5_116 mt_125 rfl rfl (Nat.le_add_left _ _) rfl rfl rfl rfl hcs
theorem e134_10 (hcs : Nat.ble (j_cs ST) 8 = true) : Rn X (d + 1) 134 10 LS (.int x :: .ref a :: ST) M h = j_rc (M a) 5 (q_k X (Rn X d 116 0 [some (.ref a), some (.int x)] [] M (j_h0 h)) h (d + 1) 134 13 LS ST) := s_callV mt_134 dX5_crash_10 cl_5_98 mt_116 rfl rfl (Nat.le_add_left _ _) rfl rfl rfl rfl hcs
theorem e134_13 : Rn X d 134 13 LS ([.int x]) M h = some (.inl (some (.int x)), M, h) := r_iret mt_134 dX5_crash_13 rfl
theorem e135_0 : Rn X d 135 0 (l0 :: some (.int x) :: t) ST M h = Rn X d 135 1 (l0 :: some (.int x) :: t) (.int x :: ST) M h := r_iload_n mt_135 dX5_link_0 rfl
theorem e135_1 (hcs : Nat.ble (j_cs ST) 8 = true) : Rn X (d + 1) 135 1 LS (.int x :: ST) M h = q_k X (Rn X d 110 0 [some (.int x)] [] M (j_h0 h)) h (d + 1) 135 4 LS ST := s_callS (Or.inl rfl) mt_135 dX5_link_1 cl_5_75 mt_110 rfl (Nat.le_add_left _ _) rfl rfl rfl rfl hcs
theorem e135_4 : Rn X d 135 4 LS (.int x :: ST) M h = q_eq X x (zN 0) d 135 7 13 LS ST M h := s_ifne mt_135 dX5_link_4 rfl
theorem e135_7 : Rn X d 135 7 (some (.ref a) :: t) ST M h = Rn X d 135 8 (some (.ref a) :: t) (.ref a :: ST) M h := r_aload_n mt_135 dX5_link_7 rfl
theorem e135_8 : Rn X d 135 8 LS ST M h = Rn X d 135 9 LS (.int (zN 1) :: ST) M h := r_iconst mt_135 dX5_link_8 c_ic1
theorem e135_9 (hcs : Nat.ble (j_cs ST) 8 = true) : Rn X (d + 1) 135 9 LS (.int x :: .ref a :: ST) M h = j_rc (M a) 5 (q_k X (Rn X d 102 0 [some (.ref a), some (.int x)] [] M (j_h0 h)) h (d + 1) 135 12 LS ST) := s_callV mt_135 dX5_link_9 cl_5_44 mt_102 rfl rfl (Nat.le_add_left _ _) rfl rfl rfl rfl hcs
theorem e135_12 : Rn X d 135 12 LS ([.int x]) M h = some (.inl (some (.int x)), M, h) := r_iret mt_135 dX5_link_12 rfl
theorem e135_13 : Rn X d 135 13 (l0 :: l1 :: some (.int x) :: t) ST M h = Rn X d 135 14 (l0 :: l1 :: some (.int x) :: t) (.int x :: ST) M h := r_iload_n mt_135 dX5_link_13 rfl
theorem e135_14 : Rn X d 135 14 LS (.int x :: ST) M h = q_eq X x (zN 0) d 135 21 17 LS ST M h := s_ifeq mt_135 dX5_link_14 rfl
theorem e135_17 : Rn X d 135 17 LS ST M h = Rn X d 135 18 LS (.int (zN 1) :: ST) M h := r_iconst mt_135 dX5_link_17 c_ic1
theorem e135_18 : Rn X d 135 18 LS ST M h = Rn X d 135 22 LS ST M h := r_goto mt_135 dX5_link_18 rfl
theorem e135_21 : Rn X d 135 21 LS ST M h = Rn X d 135 22 LS (.int (zN 0) :: ST) M h := r_iconst mt_135 dX5_link_21 c_ic0
theorem e135_22 (ho : j_one l2 = true) : Rn X d 135 22 (l0 :: l1 :: l2 :: l3 :: t) (.int x :: ST) M h = Rn X d 135 23 (l0 :: l1 :: l2 :: some (.int x) :: t) ST M h := r_istore_n mt_135 dX5_link_22 (by show 3 < _; simp only [List.length_cons]; omega) ho rfl
theorem e135_23 : Rn X d 135 23 (some (.ref a) :: t) ST M h = Rn X d 135 24 (some (.ref a) :: t) (.ref a :: ST) M h := r_aload_n mt_135 dX5_link_23 rfl
theorem e135_24 : Rn X d 135 24 (l0 :: some (.int x) :: t) ST M h = Rn X d 135 25 (l0 :: some (.int x) :: t) (.int x :: ST) M h := r_iload_n mt_135 dX5_link_24 rfl
theorem e135_25 : Rn X d 135 25 LS ST M h = Rn X d 135 26 LS (.int (zN 1) :: ST) M h := r_iconst mt_135 dX5_link_25 c_ic1
theorem e135_26 (hcs : Nat.ble (j_cs ST) 8 = true) : Rn X (d + 1) 135 26 LS (.int y :: .int x :: .ref a :: ST) M h = j_rc (M a) 5 (q_k X (Rn X d 106 0 [some (.ref a), some (.int x), some (.int y)] [] M (j_h0 h)) h (d + 1) 135 29 LS ST) := s_callV mt_135 dX5_link_26 cl_5_57 mt_106 rfl rfl (Nat.le_add_left _ _) rfl rfl rfl rfl hcs
theorem e135_29 : Rn X d 135 29 (l0 :: l1 :: l2 :: some (.int x) :: t) ST M h = Rn X d 135 30 (l0 :: l1 :: l2 :: some (.int x) :: t) (.int x :: ST) M h := r_iload_n mt_135 dX5_link_29 rfl
theorem e135_30 : Rn X d 135 30 LS (.int y :: .int x :: ST) M h = q_eq X x y d 135 33 39 LS ST M h := s_icne mt_135 dX5_link_30 rfl
theorem e135_33 : Rn X d 135 33 (some (.ref a) :: t) ST M h = Rn X d 135 34 (some (.ref a) :: t) (.ref a :: ST) M h := r_aload_n mt_135 dX5_link_33 rfl
theorem e135_34 : Rn X d 135 34 LS ST M h = Rn X d 135 35 LS (.int (zN 2) :: ST) M h := r_iconst mt_135 dX5_link_34 c_ic2
theorem e135_35 (hcs : Nat.ble (j_cs ST) 8 = true) : Rn X (d + 1) 135 35 LS (.int x :: .ref a :: ST) M h = j_rc (M a) 5 (q_k X (Rn X d 102 0 [some (.ref a), some (.int x)] [] M (j_h0 h)) h (d + 1) 135 38 LS ST) := s_callV mt_135 dX5_link_35 cl_5_44 mt_102 rfl rfl (Nat.le_add_left _ _) rfl rfl rfl rfl hcs
theorem e135_38 : Rn X d 135 38 LS ([.int x]) M h = some (.inl (some (.int x)), M, h) := r_iret mt_135 dX5_link_38 rfl
theorem e135_39 : Rn X d 135 39 (some (.ref a) :: t) ST M h = Rn X d 135 40 (some (.ref a) :: t) (.ref a :: ST) M h := r_aload_n mt_135 dX5_link_39 rfl
theorem e135_40 (hcs : Nat.ble (j_cs ST) 8 = true) : Rn X (d + 1) 135 40 LS (.ref a :: ST) M h = j_rc (M a) 5 (q_k X (Rn X d 114 0 [some (.ref a), none] [] M (j_h0 h)) h (d + 1) 135 43 LS ST) := s_callV mt_135 dX5_link_40 cl_5_91 mt_114 rfl rfl (Nat.le_add_left _ _) rfl rfl rfl rfl hcs
theorem e135_43 : Rn X d 135 43 (some (.ref a) :: t) ST M h = Rn X d 135 44 (some (.ref a) :: t) (.ref a :: ST) M h := r_aload_n mt_135 dX5_link_43 rfl
theorem e135_44 (hcs : Nat.ble (j_cs ST) 8 = true) : Rn X (d + 1) 135 44 LS (.ref a :: ST) M h = j_rc (M a) 5 (q_k X (Rn X d 115 0 [some (.ref a), none] [] M (j_h0 h)) h (d + 1) 135 47 LS ST) := s_callV mt_135 dX5_link_44 cl_5_48 mt_115 rfl rfl (Nat.le_add_left _ _) rfl rfl rfl rfl hcs
theorem e135_47 : Rn X d 135 47 (some (.ref a) :: t) ST M h = Rn X d 135 48 (some (.ref a) :: t) (.ref a :: ST) M h := r_aload_n mt_135 dX5_link_47 rfl
theorem e135_48 : Rn X d 135 48 (l0 :: some (.int x) :: t) ST M h = Rn X d 135 49 (l0 :: some (.int x) :: t) (.int x :: ST) M h := r_iload_n mt_135 dX5_link_48 rfl
theorem e135_49 : Rn X d 135 49 LS ST M h = Rn X d 135 50 LS (.int (zN 1) :: ST) M h := r_iconst mt_135 dX5_link_49 c_ic1
theorem e135_50 : Rn X d 135 50 (l0 :: l1 :: l2 :: some (.int x) :: t) ST M h = Rn X d 135 51 (l0 :: l1 :: l2 :: some (.int x) :: t) (.int x :: ST) M h := r_iload_n mt_135 dX5_link_50 rfl
theorem e135_51 (hcs : Nat.ble (j_cs ST) 8 = true) : Rn X (d + 1) 135 51 LS (.int z :: .int y :: .int x :: .ref a :: ST) M h = j_rc (M a) 5 (q_k X (Rn X d 107 0 [some (.ref a), some (.int x), some (.int y), some (.int z)] [] M (j_h0 h)) h (d + 1) 135 54 LS ST) := s_callV mt_135 dX5_link_51 cl_5_85 mt_107 rfl rfl (Nat.le_add_left _ _) rfl rfl rfl rfl hcs
theorem e135_54 : Rn X d 135 54 (some (.ref a) :: t) ST M h = Rn X d 135 55 (some (.ref a) :: t) (.ref a :: ST) M h := r_aload_n mt_135 dX5_link_54 rfl
theorem e135_55 : Rn X d 135 55 (some (.ref a) :: t) ST M h = Rn X d 135 56 (some (.ref a) :: t) (.ref a :: ST) M h := r_aload_n mt_135 dX5_link_55 rfl
theorem e135_56 : Rn X d 135 56 LS ST M h = Rn X d 135 57 LS (.int (zN 0) :: ST) M h := r_iconst mt_135 dX5_link_56 c_ic0
theorem e135_57 : Rn X d 135 57 LS ST M h = Rn X d 135 58 LS (.int (zN 1) :: ST) M h := r_iconst mt_135 dX5_link_57 c_ic1
theorem e135_58 (hcs : Nat.ble (j_cs ST) 8 = true) : Rn X (d + 1) 135 58 LS (.int y :: .int x :: .ref a :: ST) M h = j_rc (M a) 5 (q_k X (Rn X d 106 0 [some (.ref a), some (.int x), some (.int y)] [] M (j_h0 h)) h (d + 1) 135 61 LS ST) := s_callV mt_135 dX5_link_58 cl_5_57 mt_106 rfl rfl (Nat.le_add_left _ _) rfl rfl rfl rfl hcs
theorem e135_61 : Rn X d 135 61 (some (.ref a) :: t) ST M h = Rn X d 135 62 (some (.ref a) :: t) (.ref a :: ST) M h := r_aload_n mt_135 dX5_link_61 rfl
theorem e135_62 : Rn X d 135 62 LS ST M h = Rn X d 135 63 LS (.int (zN 1) :: ST) M h := r_iconst mt_135 dX5_link_62 c_ic1
theorem e135_63 : Rn X d 135 63 LS ST M h = Rn X d 135 64 LS (.int (zN 1) :: ST) M h := r_iconst mt_135 dX5_link_63 c_ic1
theorem e135_64 (hcs : Nat.ble (j_cs ST) 8 = true) : Rn X (d + 1) 135 64 LS (.int y :: .int x :: .ref a :: ST) M h = j_rc (M a) 5 (q_k X (Rn X d 106 0 [some (.ref a), some (.int x), some (.int y)] [] M (j_h0 h)) h (d + 1) 135 67 LS ST) := s_callV mt_135 dX5_link_64 cl_5_57 mt_106 rfl rfl (Nat.le_add_left _ _) rfl rfl rfl rfl hcs
theorem e135_67 : Rn X d 135 67 LS (.int y :: .int x :: ST) M h = Rn X d 135 68 LS (.int (x + y) :: ST) M h := r_iadd mt_135 dX5_link_67
theorem e135_68 (hcs : Nat.ble (j_cs ST) 8 = true) : Rn X (d + 1) 135 68 LS (.int x :: .ref a :: ST) M h = j_rc (M a) 5 (q_k X (Rn X d 103 0 [some (.ref a), some (.int x)] [] M (j_h0 h)) h (d + 1) 135 71 LS ST) := s_callV mt_135 dX5_link_68 cl_5_54 mt_103 rfl rfl (Nat.le_add_left _ _) rfl rfl rfl rfl hcs
theorem e135_71 : Rn X d 135 71 LS ([.int x]) M h = some (.inl (some (.int x)), M, h) := r_iret mt_135 dX5_link_71 rfl
theorem e136_0 : Rn X d 136 0 (l0 :: l1 :: some (.int x) :: t) ST M h = Rn X d 136 1 (l0 :: l1 :: some (.int x) :: t) (.int x :: ST) M h := r_iload_n mt_136 dX5_orderNumber_0 rfl
theorem e136_1 : Rn X d 136 1 LS ST M h = Rn X d 136 2 LS (.int (zN 5) :: ST) M h := r_iconst mt_136 dX5_orderNumber_1 c_ic5
theorem e136_2 : Rn X d 136 2 LS (.int y :: .int x :: ST) M h = q_le X y x d 136 12 5 LS ST M h := s_icge mt_136 dX5_orderNumber_2 rfl
theorem e136_5 : Rn X d 136 5 (some (.ref a) :: t) ST M h = Rn X d 136 6 (some (.ref a) :: t) (.ref a :: ST) M h := r_aload_n mt_136 dX5_orderNumber_5 rfl
theorem e136_6 : Rn X d 136 6 (l0 :: some (.int x) :: t) ST M h = Rn X d 136 7 (l0 :: some (.int x) :: t) (.int x :: ST) M h := r_iload_n mt_136 dX5_orderNumber_6 rfl
theorem e136_7 : Rn X d 136 7 (l0 :: l1 :: some (.int x) :: t) ST M h = Rn X d 136 8 (l0 :: l1 :: some (.int x) :: t) (.int x :: ST) M h := r_iload_n mt_136 dX5_orderNumber_7 rfl
theorem e136_8 (hcs : Nat.ble (j_cs ST) 8 = true) : Rn X (d + 1) 136 8 LS (.int y :: .int x :: .ref a :: ST) M h = j_rc (M a) 5 (q_k X (Rn X d 108 0 [some (.ref a), some (.int x), some (.int y)] [] M (j_h0 h)) h (d + 1) 136 11 LS ST) := s_callV mt_136 dX5_orderNumber_8 cl_5_37 mt_108 rfl rfl (Nat.le_add_left _ _) rfl rfl rfl rfl hcs
theorem e136_11 : Rn X d 136 11 LS ([.int x]) M h = some (.inl (some (.int x)), M, h) := r_iret mt_136 dX5_orderNumber_11 rfl
theorem e136_12 : Rn X d 136 12 (some (.ref a) :: t) ST M h = Rn X d 136 13 (some (.ref a) :: t) (.ref a :: ST) M h := r_aload_n mt_136 dX5_orderNumber_12 rfl
theorem e136_13 : Rn X d 136 13 LS ST M h = Rn X d 136 14 LS (.int (zN 0) :: ST) M h := r_iconst mt_136 dX5_orderNumber_13 c_ic0
theorem e136_14 : Rn X d 136 14 LS ST M h = Rn X d 136 15 LS (.int (zN 0) :: ST) M h := r_iconst mt_136 dX5_orderNumber_14 c_ic0
theorem e136_15 (hcs : Nat.ble (j_cs ST) 8 = true) : Rn X (d + 1) 136 15 LS (.int y :: .int x :: .ref a :: ST) M h = j_rc (M a) 5 (q_k X (Rn X d 106 0 [some (.ref a), some (.int x), some (.int y)] [] M (j_h0 h)) h (d + 1) 136 18 LS ST) := s_callV mt_136 dX5_orderNumber_15 cl_5_57 mt_106 rfl rfl (Nat.le_add_left _ _) rfl rfl rfl rfl hcs
theorem e136_18 : Rn X d 136 18 (l0 :: some (.int x) :: t) ST M h = Rn X d 136 19 (l0 :: some (.int x) :: t) (.int x :: ST) M h := r_iload_n mt_136 dX5_orderNumber_18 rfl
theorem e136_19 : Rn X d 136 19 LS (.int y :: .int x :: ST) M h = q_le X x y d 136 26 22 LS ST M h := s_icle mt_136 dX5_orderNumber_19 rfl
theorem e136_22 : Rn X d 136 22 LS ST M h = Rn X d 136 23 LS (.int (zN 1) :: ST) M h := r_iconst mt_136 dX5_orderNumber_22 c_ic1
theorem e136_23 : Rn X d 136 23 LS ST M h = Rn X d 136 27 LS ST M h := r_goto mt_136 dX5_orderNumber_23 rfl
theorem e136_26 : Rn X d 136 26 LS ST M h = Rn X d 136 27 LS (.int (zN 0) :: ST) M h := r_iconst mt_136 dX5_orderNumber_26 c_ic0
theorem e136_27 : Rn X d 136 27 (some (.ref a) :: t) ST M h = Rn X d 136 28 (some (.ref a) :: t) (.ref a :: ST) M h := r_aload_n mt_136 dX5_orderNumber_27 rfl
theorem e136_28 : Rn X d 136 28 LS ST M h = Rn X d 136 29 LS (.int (zN 1) :: ST) M h := r_iconst mt_136 dX5_orderNumber_28 c_ic1
theorem e136_29 : Rn X d 136 29 LS ST M h = Rn X d 136 30 LS (.int (zN 0) :: ST) M h := r_iconst mt_136 dX5_orderNumber_29 c_ic0
theorem e136_30 (hcs : Nat.ble (j_cs ST) 8 = true) : Rn X (d + 1) 136 30 LS (.int y :: .int x :: .ref a :: ST) M h = j_rc (M a) 5 (q_k X (Rn X d 106 0 [some (.ref a), some (.int x), some (.int y)] [] M (j_h0 h)) h (d + 1) 136 33 LS ST) := s_callV mt_136 dX5_orderNumber_30 cl_5_57 mt_106 rfl rfl (Nat.le_add_left _ _) rfl rfl rfl rfl hcs
theorem e136_33 : Rn X d 136 33 (l0 :: some (.int x) :: t) ST M h = Rn X d 136 34 (l0 :: some (.int x) :: t) (.int x :: ST) M h := r_iload_n mt_136 dX5_orderNumber_33 rfl
theorem e136_34 : Rn X d 136 34 LS (.int y :: .int x :: ST) M h = q_le X x y d 136 41 37 LS ST M h := s_icle mt_136 dX5_orderNumber_34 rfl
theorem e136_37 : Rn X d 136 37 LS ST M h = Rn X d 136 38 LS (.int (zN 2) :: ST) M h := r_iconst mt_136 dX5_orderNumber_37 c_ic2
theorem e136_38 : Rn X d 136 38 LS ST M h = Rn X d 136 42 LS ST M h := r_goto mt_136 dX5_orderNumber_38 rfl
theorem e136_41 : Rn X d 136 41 LS ST M h = Rn X d 136 42 LS (.int (zN 0) :: ST) M h := r_iconst mt_136 dX5_orderNumber_41 c_ic0
theorem e136_42 : Rn X d 136 42 LS (.int y :: .int x :: ST) M h = Rn X d 136 43 LS (.int (x + y) :: ST) M h := r_iadd mt_136 dX5_orderNumber_42
theorem e136_43 : Rn X d 136 43 LS ([.int x]) M h = some (.inl (some (.int x)), M, h) := r_iret mt_136 dX5_orderNumber_43 rfl
theorem e137_0 : Rn X d 137 0 (some (.ref a) :: t) ST M h = Rn X d 137 1 (some (.ref a) :: t) (.ref a :: ST) M h := r_aload_n mt_137 dX5_order_0 rfl
theorem e137_1 : Rn X d 137 1 (l0 :: some (.int x) :: t) ST M h = Rn X d 137 2 (l0 :: some (.int x) :: t) (.int x :: ST) M h := r_iload_n mt_137 dX5_order_1 rfl
theorem e137_2 (hcs : Nat.ble (j_cs ST) 8 = true) : Rn X (d + 1) 137 2 LS (.int x :: .ref a :: ST) M h = j_rc (M a) 5 (q_k X (Rn X d 111 0 [some (.ref a), some (.int x)] [] M (j_h0 h)) h (d + 1) 137 5 LS ST) := s_callV mt_137 dX5_order_2 cl_5_101 mt_111 rfl rfl (Nat.le_add_left _ _) rfl rfl rfl rfl hcs
theorem e137_5 : Rn X d 137 5 LS (.int x :: ST) M h = q_eq X x (zN 0) d 137 8 14 LS ST M h := s_ifne mt_137 dX5_order_5 rfl
theorem e137_8 : Rn X d 137 8 (some (.ref a) :: t) ST M h = Rn X d 137 9 (some (.ref a) :: t) (.ref a :: ST) M h := r_aload_n mt_137 dX5_order_8 rfl
theorem e137_9 : Rn X d 137 9 LS ST M h = Rn X d 137 10 LS (.int (zN 1) :: ST) M h := r_iconst mt_137 dX5_order_9 c_ic1
theorem e137_10 (hcs : Nat.ble (j_cs ST) 8 = true) : Rn X (d + 1) 137 10 LS (.int x :: .ref a :: ST) M h = j_rc (M a) 5 (q_k X (Rn X d 102 0 [some (.ref a), some (.int x)] [] M (j_h0 h)) h (d + 1) 137 13 LS ST) := s_callV mt_137 dX5_order_10 cl_5_44 mt_102 rfl rfl (Nat.le_add_left _ _) rfl rfl rfl rfl hcs
theorem e137_13 : Rn X d 137 13 LS ([.int x]) M h = some (.inl (some (.int x)), M, h) := r_iret mt_137 dX5_order_13 rfl
theorem e137_14 : Rn X d 137 14 (l0 :: l1 :: some (.int x) :: t) ST M h = Rn X d 137 15 (l0 :: l1 :: some (.int x) :: t) (.int x :: ST) M h := r_iload_n mt_137 dX5_order_14 rfl
theorem e137_15 : Rn X d 137 15 LS ST M h = Rn X d 137 16 LS (.int (zN 0) :: ST) M h := r_iconst mt_137 dX5_order_15 c_ic0
theorem e137_16 : Rn X d 137 16 LS ST M h = Rn X d 137 17 LS (.int (zN 5) :: ST) M h := r_iconst mt_137 dX5_order_16 c_ic5
theorem e137_17 (hcs : Nat.ble (j_cs ST) 8 = true) : Rn X (d + 1) 137 17 LS (.int z :: .int y :: .int x :: ST) M h = q_k X (Rn X d 104 0 [some (.int x), some (.int y), some (.int z)] [] M (j_h0 h)) h (d + 1) 137 20 LS ST := s_callS (Or.inl rfl) mt_137 dX5_order_17 cl_5_33 mt_104 rfl (Nat.le_add_left _ _) rfl rfl rfl rfl hcs
theorem e137_20 : Rn X d 137 20 LS (.int x :: ST) M h = q_eq X x (zN 0) d 137 36 23 LS ST M h := s_ifeq mt_137 dX5_order_20 rfl
theorem e137_23 : Rn X d 137 23 (some (.ref a) :: t) ST M h = Rn X d 137 24 (some (.ref a) :: t) (.ref a :: ST) M h := r_aload_n mt_137 dX5_order_23 rfl
theorem e137_24 : Rn X d 137 24 (some (.ref a) :: t) ST M h = Rn X d 137 25 (some (.ref a) :: t) (.ref a :: ST) M h := r_aload_n mt_137 dX5_order_24 rfl
theorem e137_25 : Rn X d 137 25 (l0 :: some (.int x) :: t) ST M h = Rn X d 137 26 (l0 :: some (.int x) :: t) (.int x :: ST) M h := r_iload_n mt_137 dX5_order_25 rfl
theorem e137_26 : Rn X d 137 26 (l0 :: l1 :: some (.int x) :: t) ST M h = Rn X d 137 27 (l0 :: l1 :: some (.int x) :: t) (.int x :: ST) M h := r_iload_n mt_137 dX5_order_26 rfl
theorem e137_27 (hcs : Nat.ble (j_cs ST) 8 = true) : Rn X (d + 1) 137 27 LS (.int y :: .int x :: .ref a :: ST) M h = j_rc (M a) 5 (q_k X (Rn X d 136 0 [some (.ref a), some (.int x), some (.int y)] [] M (j_h0 h)) h (d + 1) 137 30 LS ST) := s_callV mt_137 dX5_order_27 cl_5_119 mt_136 rfl rfl (Nat.le_add_left _ _) rfl rfl rfl rfl hcs
theorem e137_30 (hcs : Nat.ble (j_cs ST) 8 = true) : Rn X (d + 1) 137 30 LS (.int x :: .ref a :: ST) M h = j_rc (M a) 5 (q_k X (Rn X d 103 0 [some (.ref a), some (.int x)] [] M (j_h0 h)) h (d + 1) 137 33 LS ST) := s_callV mt_137 dX5_order_30 cl_5_54 mt_103 rfl rfl (Nat.le_add_left _ _) rfl rfl rfl rfl hcs
theorem e137_33 : Rn X d 137 33 LS ST M h = Rn X d 137 41 LS ST M h := r_goto mt_137 dX5_order_33 rfl
theorem e137_36 : Rn X d 137 36 (some (.ref a) :: t) ST M h = Rn X d 137 37 (some (.ref a) :: t) (.ref a :: ST) M h := r_aload_n mt_137 dX5_order_36 rfl
theorem e137_37 : Rn X d 137 37 LS ST M h = Rn X d 137 38 LS (.int (zN 2) :: ST) M h := r_iconst mt_137 dX5_order_37 c_ic2
theorem e137_38 (hcs : Nat.ble (j_cs ST) 8 = true) : Rn X (d + 1) 137 38 LS (.int x :: .ref a :: ST) M h = j_rc (M a) 5 (q_k X (Rn X d 102 0 [some (.ref a), some (.int x)] [] M (j_h0 h)) h (d + 1) 137 41 LS ST) := s_callV mt_137 dX5_order_38 cl_5_44 mt_102 rfl rfl (Nat.le_add_left _ _) rfl rfl rfl rfl hcs
theorem e137_41 : Rn X d 137 41 LS ([.int x]) M h = some (.inl (some (.int x)), M, h) := r_iret mt_137 dX5_order_41 rfl
theorem e138_0 : Rn X d 138 0 (l0 :: l1 :: some (.int x) :: t) ST M h = Rn X d 138 1 (l0 :: l1 :: some (.int x) :: t) (.int x :: ST) M h := r_iload_n mt_138 dX5_shipNumber_0 rfl
theorem e138_1_0 : Rn X d 138 1 LS (.int (zN 0) :: ST) M h = Rn X d 138 36 LS ST M h := s_tab (off := 35) mt_138 dX5_shipNumber_1 (by decide) (by decide) (by decide +kernel) rfl
theorem e138_1_1 : Rn X d 138 1 LS (.int (zN 1) :: ST) M h = Rn X d 138 43 LS ST M h := s_tab (off := 42) mt_138 dX5_shipNumber_1 (by decide) (by decide) (by decide +kernel) rfl
theorem e138_1_2 : Rn X d 138 1 LS (.int (zN 2) :: ST) M h = Rn X d 138 50 LS ST M h := s_tab (off := 49) mt_138 dX5_shipNumber_1 (by decide) (by decide) (by decide +kernel) rfl
theorem e138_1_3 : Rn X d 138 1 LS (.int (zN 3) :: ST) M h = Rn X d 138 57 LS ST M h := s_tab (off := 56) mt_138 dX5_shipNumber_1 (by decide) (by decide) (by decide +kernel) rfl
theorem e138_1_4 : Rn X d 138 1 LS (.int (zN 4) :: ST) M h = Rn X d 138 89 LS ST M h := s_tab (off := 88) mt_138 dX5_shipNumber_1 (by decide) (by decide) (by decide +kernel) rfl
theorem e138_1_h {v : Nat} (h0 : v < 2147483648) (h1 : 4 < v) : Rn X d 138 1 LS (.int (zN v) :: ST) M h = Rn X d 138 96 LS ST M h := s_tabD mt_138 dX5_shipNumber_1 rfl h0 (Or.inr (by omega))
theorem e138_1_m {v : Nat} (h0 : v < 2147483648) : Rn X d 138 1 LS (.int (zM v) :: ST) M h = Rn X d 138 96 LS ST M h := s_tabM mt_138 dX5_shipNumber_1 rfl (by decide) h0
theorem e138_36 : Rn X d 138 36 (some (.ref a) :: t) ST M h = Rn X d 138 37 (some (.ref a) :: t) (.ref a :: ST) M h := r_aload_n mt_138 dX5_shipNumber_36 rfl
theorem e138_37 : Rn X d 138 37 (l0 :: some (.int x) :: t) ST M h = Rn X d 138 38 (l0 :: some (.int x) :: t) (.int x :: ST) M h := r_iload_n mt_138 dX5_shipNumber_37 rfl
theorem e138_38 : Rn X d 138 38 LS ST M h = Rn X d 138 39 LS (.int (zN 0) :: ST) M h := r_iconst mt_138 dX5_shipNumber_38 c_ic0
theorem e138_39 (hcs : Nat.ble (j_cs ST) 8 = true) : Rn X (d + 1) 138 39 LS (.int y :: .int x :: .ref a :: ST) M h = j_rc (M a) 5 (q_k X (Rn X d 106 0 [some (.ref a), some (.int x), some (.int y)] [] M (j_h0 h)) h (d + 1) 138 42 LS ST) := s_callV mt_138 dX5_shipNumber_39 cl_5_57 mt_106 rfl rfl (Nat.le_add_left _ _) rfl rfl rfl rfl hcs
theorem e138_42 : Rn X d 138 42 LS ([.int x]) M h = some (.inl (some (.int x)), M, h) := r_iret mt_138 dX5_shipNumber_42 rfl
theorem e138_43 : Rn X d 138 43 (some (.ref a) :: t) ST M h = Rn X d 138 44 (some (.ref a) :: t) (.ref a :: ST) M h := r_aload_n mt_138 dX5_shipNumber_43 rfl
theorem e138_44 : Rn X d 138 44 (l0 :: some (.int x) :: t) ST M h = Rn X d 138 45 (l0 :: some (.int x) :: t) (.int x :: ST) M h := r_iload_n mt_138 dX5_shipNumber_44 rfl
theorem e138_45 : Rn X d 138 45 LS ST M h = Rn X d 138 46 LS (.int (zN 4) :: ST) M h := r_iconst mt_138 dX5_shipNumber_45 c_ic4
theorem e138_46 (hcs : Nat.ble (j_cs ST) 8 = true) : Rn X (d + 1) 138 46 LS (.int y :: .int x :: .ref a :: ST) M h = j_rc (M a) 5 (q_k X (Rn X d 106 0 [some (.ref a), some (.int x), some (.int y)] [] M (j_h0 h)) h (d + 1) 138 49 LS ST) := s_callV mt_138 dX5_shipNumber_46 cl_5_57 mt_106 rfl rfl (Nat.le_add_left _ _) rfl rfl rfl rfl hcs
theorem e138_49 : Rn X d 138 49 LS ([.int x]) M h = some (.inl (some (.int x)), M, h) := r_iret mt_138 dX5_shipNumber_49 rfl
theorem e138_50 : Rn X d 138 50 (some (.ref a) :: t) ST M h = Rn X d 138 51 (some (.ref a) :: t) (.ref a :: ST) M h := r_aload_n mt_138 dX5_shipNumber_50 rfl
theorem e138_51 : Rn X d 138 51 (l0 :: some (.int x) :: t) ST M h = Rn X d 138 52 (l0 :: some (.int x) :: t) (.int x :: ST) M h := r_iload_n mt_138 dX5_shipNumber_51 rfl
theorem e138_52 : Rn X d 138 52 LS ST M h = Rn X d 138 53 LS (.int (zN 1) :: ST) M h := r_iconst mt_138 dX5_shipNumber_52 c_ic1
theorem e138_53 (hcs : Nat.ble (j_cs ST) 8 = true) : Rn X (d + 1) 138 53 LS (.int y :: .int x :: .ref a :: ST) M h = j_rc (M a) 5 (q_k X (Rn X d 106 0 [some (.ref a), some (.int x), some (.int y)] [] M (j_h0 h)) h (d + 1) 138 56 LS ST) := s_callV mt_138 dX5_shipNumber_53 cl_5_57 mt_106 rfl rfl (Nat.le_add_left _ _) rfl rfl rfl rfl hcs
theorem e138_56 : Rn X d 138 56 LS ([.int x]) M h = some (.inl (some (.int x)), M, h) := r_iret mt_138 dX5_shipNumber_56 rfl
theorem e138_57 : Rn X d 138 57 LS ST M h = Rn X d 138 58 LS (.int (zN 0) :: ST) M h := r_iconst mt_138 dX5_shipNumber_57 c_ic0
theorem e138_58 (ho : j_one l2 = true) : Rn X d 138 58 (l0 :: l1 :: l2 :: l3 :: t) (.int x :: ST) M h = Rn X d 138 59 (l0 :: l1 :: l2 :: some (.int x) :: t) ST M h := r_istore_n mt_138 dX5_shipNumber_58 (by show 3 < _; simp only [List.length_cons]; omega) ho rfl
theorem e138_59 : Rn X d 138 59 LS ST M h = Rn X d 138 60 LS (.int (zN 0) :: ST) M h := r_iconst mt_138 dX5_shipNumber_59 c_ic0
theorem e138_60 (ho : j_one l3 = true) : Rn X d 138 60 (l0 :: l1 :: l2 :: l3 :: l4 :: t) (.int x :: ST) M h = Rn X d 138 62 (l0 :: l1 :: l2 :: l3 :: some (.int x) :: t) ST M h := r_istore mt_138 dX5_shipNumber_60 (by show 4 < _; simp only [List.length_cons]; omega) ho rfl
theorem e138_62 : Rn X d 138 62 (l0 :: l1 :: l2 :: l3 :: some (.int x) :: t) ST M h = Rn X d 138 64 (l0 :: l1 :: l2 :: l3 :: some (.int x) :: t) (.int x :: ST) M h := r_iload mt_138 dX5_shipNumber_62 rfl
theorem e138_64 : Rn X d 138 64 LS ST M h = Rn X d 138 66 LS (.int (zN 8) :: ST) M h := r_bipush mt_138 dX5_shipNumber_64 c_bi8
theorem e138_66 : Rn X d 138 66 LS (.int y :: .int x :: ST) M h = q_le X y x d 138 87 69 LS ST M h := s_icge mt_138 dX5_shipNumber_66 rfl
theorem e138_69 : Rn X d 138 69 (l0 :: l1 :: l2 :: some (.int x) :: t) ST M h = Rn X d 138 70 (l0 :: l1 :: l2 :: some (.int x) :: t) (.int x :: ST) M h := r_iload_n mt_138 dX5_shipNumber_69 rfl
theorem e138_70 : Rn X d 138 70 (some (.ref a) :: t) ST M h = Rn X d 138 71 (some (.ref a) :: t) (.ref a :: ST) M h := r_aload_n mt_138 dX5_shipNumber_70 rfl
theorem e138_71 : Rn X d 138 71 (l0 :: some (.int x) :: t) ST M h = Rn X d 138 72 (l0 :: some (.int x) :: t) (.int x :: ST) M h := r_iload_n mt_138 dX5_shipNumber_71 rfl
theorem e138_72 : Rn X d 138 72 LS ST M h = Rn X d 138 73 LS (.int (zN 5) :: ST) M h := r_iconst mt_138 dX5_shipNumber_72 c_ic5
theorem e138_73 : Rn X d 138 73 (l0 :: l1 :: l2 :: l3 :: some (.int x) :: t) ST M h = Rn X d 138 75 (l0 :: l1 :: l2 :: l3 :: some (.int x) :: t) (.int x :: ST) M h := r_iload mt_138 dX5_shipNumber_73 rfl
theorem e138_75 : Rn X d 138 75 LS (.int y :: .int x :: ST) M h = Rn X d 138 76 LS (.int (x + y) :: ST) M h := r_iadd mt_138 dX5_shipNumber_75
theorem e138_76 (hcs : Nat.ble (j_cs ST) 8 = true) : Rn X (d + 1) 138 76 LS (.int y :: .int x :: .ref a :: ST) M h = j_rc (M a) 5 (q_k X (Rn X d 106 0 [some (.ref a), some (.int x), some (.int y)] [] M (j_h0 h)) h (d + 1) 138 79 LS ST) := s_callV mt_138 dX5_shipNumber_76 cl_5_57 mt_106 rfl rfl (Nat.le_add_left _ _) rfl rfl rfl rfl hcs
theorem e138_79 : Rn X d 138 79 LS (.int y :: .int x :: ST) M h = Rn X d 138 80 LS (.int (x + y) :: ST) M h := r_iadd mt_138 dX5_shipNumber_79
theorem e138_80 (ho : j_one l2 = true) : Rn X d 138 80 (l0 :: l1 :: l2 :: l3 :: t) (.int x :: ST) M h = Rn X d 138 81 (l0 :: l1 :: l2 :: some (.int x) :: t) ST M h := r_istore_n mt_138 dX5_shipNumber_80 (by show 3 < _; simp only [List.length_cons]; omega) ho rfl
theorem e138_81 (ho : j_one l3 = true) : Rn X d 138 81 (l0 :: l1 :: l2 :: l3 :: some (.int x) :: t) ST M h = Rn X d 138 84 (l0 :: l1 :: l2 :: l3 :: some (.int (x + (zN 1))) :: t) ST M h := r_iinc mt_138 dX5_shipNumber_81 rfl (by simp only [List.length_cons]; omega) ho c_ic1 rfl
theorem e138_84 : Rn X d 138 84 LS ST M h = Rn X d 138 62 LS ST M h := r_goto mt_138 dX5_shipNumber_84 rfl
theorem e138_87 : Rn X d 138 87 (l0 :: l1 :: l2 :: some (.int x) :: t) ST M h = Rn X d 138 88 (l0 :: l1 :: l2 :: some (.int x) :: t) (.int x :: ST) M h := r_iload_n mt_138 dX5_shipNumber_87 rfl
theorem e138_88 : Rn X d 138 88 LS ([.int x]) M h = some (.inl (some (.int x)), M, h) := r_iret mt_138 dX5_shipNumber_88 rfl
theorem e138_89 : Rn X d 138 89 (some (.ref a) :: t) ST M h = Rn X d 138 90 (some (.ref a) :: t) (.ref a :: ST) M h := r_aload_n mt_138 dX5_shipNumber_89 rfl
theorem e138_90 : Rn X d 138 90 (l0 :: some (.int x) :: t) ST M h = Rn X d 138 91 (l0 :: some (.int x) :: t) (.int x :: ST) M h := r_iload_n mt_138 dX5_shipNumber_90 rfl
theorem e138_91 : Rn X d 138 91 LS ST M h = Rn X d 138 92 LS (.int (zN 2) :: ST) M h := r_iconst mt_138 dX5_shipNumber_91 c_ic2
theorem e138_92 (hcs : Nat.ble (j_cs ST) 8 = true) : Rn X (d + 1) 138 92 LS (.int y :: .int x :: .ref a :: ST) M h = j_rc (M a) 5 (q_k X (Rn X d 106 0 [some (.ref a), some (.int x), some (.int y)] [] M (j_h0 h)) h (d + 1) 138 95 LS ST) := s_callV mt_138 dX5_shipNumber_92 cl_5_57 mt_106 rfl rfl (Nat.le_add_left _ _) rfl rfl rfl rfl hcs
theorem e138_95 : Rn X d 138 95 LS ([.int x]) M h = some (.inl (some (.int x)), M, h) := r_iret mt_138 dX5_shipNumber_95 rfl
theorem e138_96 : Rn X d 138 96 (some (.ref a) :: t) ST M h = Rn X d 138 97 (some (.ref a) :: t) (.ref a :: ST) M h := r_aload_n mt_138 dX5_shipNumber_96 rfl
theorem e138_97 : Rn X d 138 97 (l0 :: some (.int x) :: t) ST M h = Rn X d 138 98 (l0 :: some (.int x) :: t) (.int x :: ST) M h := r_iload_n mt_138 dX5_shipNumber_97 rfl
theorem e138_98 : Rn X d 138 98 LS ST M h = Rn X d 138 99 LS (.int (zN 3) :: ST) M h := r_iconst mt_138 dX5_shipNumber_98 c_ic3
theorem e138_99 (hcs : Nat.ble (j_cs ST) 8 = true) : Rn X (d + 1) 138 99 LS (.int y :: .int x :: .ref a :: ST) M h = j_rc (M a) 5 (q_k X (Rn X d 106 0 [some (.ref a), some (.int x), some (.int y)] [] M (j_h0 h)) h (d + 1) 138 102 LS ST) := s_callV mt_138 dX5_shipNumber_99 cl_5_57 mt_106 rfl rfl (Nat.le_add_left _ _) rfl rfl rfl rfl hcs
theorem e138_102 : Rn X d 138 102 LS ([.int x]) M h = some (.inl (some (.int x)), M, h) := r_iret mt_138 dX5_shipNumber_102 rfl
theorem e139_0 : Rn X d 139 0 (l0 :: some (.int x) :: t) ST M h = Rn X d 139 1 (l0 :: some (.int x) :: t) (.int x :: ST) M h := r_iload_n mt_139 dX5_ship_0 rfl
theorem e139_1 (hcs : Nat.ble (j_cs ST) 8 = true) : Rn X (d + 1) 139 1 LS (.int x :: ST) M h = q_k X (Rn X d 110 0 [some (.int x)] [] M (j_h0 h)) h (d + 1) 139 4 LS ST := s_callS (Or.inl rfl) mt_139 dX5_ship_1 cl_5_75 mt_110 rfl (Nat.le_add_left _ _) rfl rfl rfl rfl hcs
theorem e139_4 : Rn X d 139 4 LS (.int x :: ST) M h = q_eq X x (zN 0) d 139 7 13 LS ST M h := s_ifne mt_139 dX5_ship_4 rfl
theorem e139_7 : Rn X d 139 7 (some (.ref a) :: t) ST M h = Rn X d 139 8 (some (.ref a) :: t) (.ref a :: ST) M h := r_aload_n mt_139 dX5_ship_7 rfl
theorem e139_8 : Rn X d 139 8 LS ST M h = Rn X d 139 9 LS (.int (zN 1) :: ST) M h := r_iconst mt_139 dX5_ship_8 c_ic1
theorem e139_9 (hcs : Nat.ble (j_cs ST) 8 = true) : Rn X (d + 1) 139 9 LS (.int x :: .ref a :: ST) M h = j_rc (M a) 5 (q_k X (Rn X d 102 0 [some (.ref a), some (.int x)] [] M (j_h0 h)) h (d + 1) 139 12 LS ST) := s_callV mt_139 dX5_ship_9 cl_5_44 mt_102 rfl rfl (Nat.le_add_left _ _) rfl rfl rfl rfl hcs
theorem e139_12 : Rn X d 139 12 LS ([.int x]) M h = some (.inl (some (.int x)), M, h) := r_iret mt_139 dX5_ship_12 rfl
theorem e139_13 : Rn X d 139 13 (l0 :: l1 :: some (.int x) :: t) ST M h = Rn X d 139 14 (l0 :: l1 :: some (.int x) :: t) (.int x :: ST) M h := r_iload_n mt_139 dX5_ship_13 rfl
theorem e139_14 : Rn X d 139 14 LS ST M h = Rn X d 139 15 LS (.int (zN 0) :: ST) M h := r_iconst mt_139 dX5_ship_14 c_ic0
theorem e139_15 : Rn X d 139 15 LS ST M h = Rn X d 139 16 LS (.int (zN 5) :: ST) M h := r_iconst mt_139 dX5_ship_15 c_ic5
theorem e139_16 (hcs : Nat.ble (j_cs ST) 8 = true) : Rn X (d + 1) 139 16 LS (.int z :: .int y :: .int x :: ST) M h = q_k X (Rn X d 104 0 [some (.int x), some (.int y), some (.int z)] [] M (j_h0 h)) h (d + 1) 139 19 LS ST := s_callS (Or.inl rfl) mt_139 dX5_ship_16 cl_5_33 mt_104 rfl (Nat.le_add_left _ _) rfl rfl rfl rfl hcs
theorem e139_19 : Rn X d 139 19 LS (.int x :: ST) M h = q_eq X x (zN 0) d 139 35 22 LS ST M h := s_ifeq mt_139 dX5_ship_19 rfl
theorem e139_22 : Rn X d 139 22 (some (.ref a) :: t) ST M h = Rn X d 139 23 (some (.ref a) :: t) (.ref a :: ST) M h := r_aload_n mt_139 dX5_ship_22 rfl
theorem e139_23 : Rn X d 139 23 (some (.ref a) :: t) ST M h = Rn X d 139 24 (some (.ref a) :: t) (.ref a :: ST) M h := r_aload_n mt_139 dX5_ship_23 rfl
theorem e139_24 : Rn X d 139 24 (l0 :: some (.int x) :: t) ST M h = Rn X d 139 25 (l0 :: some (.int x) :: t) (.int x :: ST) M h := r_iload_n mt_139 dX5_ship_24 rfl
theorem e139_25 : Rn X d 139 25 (l0 :: l1 :: some (.int x) :: t) ST M h = Rn X d 139 26 (l0 :: l1 :: some (.int x) :: t) (.int x :: ST) M h := r_iload_n mt_139 dX5_ship_25 rfl
theorem e139_26 (hcs : Nat.ble (j_cs ST) 8 = true) : Rn X (d + 1) 139 26 LS (.int y :: .int x :: .ref a :: ST) M h = j_rc (M a) 5 (q_k X (Rn X d 138 0 [some (.ref a), some (.int x), some (.int y), none, none] [] M (j_h0 h)) h (d + 1) 139 29 LS ST) := s_callV mt_139 dX5_ship_26 cl_5_122 mt_138 rfl rfl (Nat.le_add_left _ _) rfl rfl rfl rfl hcs
theorem e139_29 (hcs : Nat.ble (j_cs ST) 8 = true) : Rn X (d + 1) 139 29 LS (.int x :: .ref a :: ST) M h = j_rc (M a) 5 (q_k X (Rn X d 103 0 [some (.ref a), some (.int x)] [] M (j_h0 h)) h (d + 1) 139 32 LS ST) := s_callV mt_139 dX5_ship_29 cl_5_54 mt_103 rfl rfl (Nat.le_add_left _ _) rfl rfl rfl rfl hcs
theorem e139_32 : Rn X d 139 32 LS ST M h = Rn X d 139 40 LS ST M h := r_goto mt_139 dX5_ship_32 rfl
theorem e139_35 : Rn X d 139 35 (some (.ref a) :: t) ST M h = Rn X d 139 36 (some (.ref a) :: t) (.ref a :: ST) M h := r_aload_n mt_139 dX5_ship_35 rfl
theorem e139_36 : Rn X d 139 36 LS ST M h = Rn X d 139 37 LS (.int (zN 2) :: ST) M h := r_iconst mt_139 dX5_ship_36 c_ic2
theorem e139_37 (hcs : Nat.ble (j_cs ST) 8 = true) : Rn X (d + 1) 139 37 LS (.int x :: .ref a :: ST) M h = j_rc (M a) 5 (q_k X (Rn X d 102 0 [some (.ref a), some (.int x)] [] M (j_h0 h)) h (d + 1) 139 40 LS ST) := s_callV mt_139 dX5_ship_37 cl_5_44 mt_102 rfl rfl (Nat.le_add_left _ _) rfl rfl rfl rfl hcs
theorem e139_40 : Rn X d 139 40 LS ([.int x]) M h = some (.inl (some (.int x)), M, h) := r_iret mt_139 dX5_ship_40 rfl
theorem e140_0 : Rn X d 140 0 (l0 :: some (.int x) :: t) ST M h = Rn X d 140 1 (l0 :: some (.int x) :: t) (.int x :: ST) M h := r_iload_n mt_140 dX5_hold_0 rfl
theorem e140_1 (hcs : Nat.ble (j_cs ST) 8 = true) : Rn X (d + 1) 140 1 LS (.int x :: ST) M h = q_k X (Rn X d 110 0 [some (.int x)] [] M (j_h0 h)) h (d + 1) 140 4 LS ST := s_callS (Or.inl rfl) mt_140 dX5_hold_1 cl_5_75 mt_110 rfl (Nat.le_add_left _ _) rfl rfl rfl rfl hcs
theorem e140_4 : Rn X d 140 4 LS (.int x :: ST) M h = q_eq X x (zN 0) d 140 32 7 LS ST M h := s_ifeq mt_140 dX5_hold_4 rfl
theorem e140_7 : Rn X d 140 7 (l0 :: l1 :: some (.int x) :: t) ST M h = Rn X d 140 8 (l0 :: l1 :: some (.int x) :: t) (.int x :: ST) M h := r_iload_n mt_140 dX5_hold_7 rfl
theorem e140_8 : Rn X d 140 8 LS ST M h = Rn X d 140 9 LS (.int (zN 0) :: ST) M h := r_iconst mt_140 dX5_hold_8 c_ic0
theorem e140_9 : Rn X d 140 9 LS ST M h = Rn X d 140 11 LS (.int (zN 7) :: ST) M h := r_bipush mt_140 dX5_hold_9 c_bi7
theorem e140_11 (hcs : Nat.ble (j_cs ST) 8 = true) : Rn X (d + 1) 140 11 LS (.int z :: .int y :: .int x :: ST) M h = q_k X (Rn X d 104 0 [some (.int x), some (.int y), some (.int z)] [] M (j_h0 h)) h (d + 1) 140 14 LS ST := s_callS (Or.inl rfl) mt_140 dX5_hold_11 cl_5_33 mt_104 rfl (Nat.le_add_left _ _) rfl rfl rfl rfl hcs
theorem e140_14 : Rn X d 140 14 LS (.int x :: ST) M h = q_eq X x (zN 0) d 140 32 17 LS ST M h := s_ifeq mt_140 dX5_hold_14 rfl
theorem e140_17 : Rn X d 140 17 (some (.ref a) :: t) ST M h = Rn X d 140 18 (some (.ref a) :: t) (.ref a :: ST) M h := r_aload_n mt_140 dX5_hold_17 rfl
theorem e140_18 : Rn X d 140 18 (some (.ref a) :: t) ST M h = Rn X d 140 19 (some (.ref a) :: t) (.ref a :: ST) M h := r_aload_n mt_140 dX5_hold_18 rfl
theorem e140_19 : Rn X d 140 19 (l0 :: some (.int x) :: t) ST M h = Rn X d 140 20 (l0 :: some (.int x) :: t) (.int x :: ST) M h := r_iload_n mt_140 dX5_hold_19 rfl
theorem e140_20 : Rn X d 140 20 LS ST M h = Rn X d 140 21 LS (.int (zN 5) :: ST) M h := r_iconst mt_140 dX5_hold_20 c_ic5
theorem e140_21 : Rn X d 140 21 (l0 :: l1 :: some (.int x) :: t) ST M h = Rn X d 140 22 (l0 :: l1 :: some (.int x) :: t) (.int x :: ST) M h := r_iload_n mt_140 dX5_hold_21 rfl
theorem e140_22 : Rn X d 140 22 LS (.int y :: .int x :: ST) M h = Rn X d 140 23 LS (.int (x + y) :: ST) M h := r_iadd mt_140 dX5_hold_22
theorem e140_23 (hcs : Nat.ble (j_cs ST) 8 = true) : Rn X (d + 1) 140 23 LS (.int y :: .int x :: .ref a :: ST) M h = j_rc (M a) 5 (q_k X (Rn X d 106 0 [some (.ref a), some (.int x), some (.int y)] [] M (j_h0 h)) h (d + 1) 140 26 LS ST) := s_callV mt_140 dX5_hold_23 cl_5_57 mt_106 rfl rfl (Nat.le_add_left _ _) rfl rfl rfl rfl hcs
theorem e140_26 (hcs : Nat.ble (j_cs ST) 8 = true) : Rn X (d + 1) 140 26 LS (.int x :: .ref a :: ST) M h = j_rc (M a) 5 (q_k X (Rn X d 103 0 [some (.ref a), some (.int x)] [] M (j_h0 h)) h (d + 1) 140 29 LS ST) := s_callV mt_140 dX5_hold_26 cl_5_54 mt_103 rfl rfl (Nat.le_add_left _ _) rfl rfl rfl rfl hcs
theorem e140_29 : Rn X d 140 29 LS ST M h = Rn X d 140 37 LS ST M h := r_goto mt_140 dX5_hold_29 rfl
theorem e140_32 : Rn X d 140 32 (some (.ref a) :: t) ST M h = Rn X d 140 33 (some (.ref a) :: t) (.ref a :: ST) M h := r_aload_n mt_140 dX5_hold_32 rfl
theorem e140_33 : Rn X d 140 33 LS ST M h = Rn X d 140 34 LS (.int (zN 1) :: ST) M h := r_iconst mt_140 dX5_hold_33 c_ic1
theorem e140_34 (hcs : Nat.ble (j_cs ST) 8 = true) : Rn X (d + 1) 140 34 LS (.int x :: .ref a :: ST) M h = j_rc (M a) 5 (q_k X (Rn X d 102 0 [some (.ref a), some (.int x)] [] M (j_h0 h)) h (d + 1) 140 37 LS ST) := s_callV mt_140 dX5_hold_34 cl_5_44 mt_102 rfl rfl (Nat.le_add_left _ _) rfl rfl rfl rfl hcs
theorem e140_37 : Rn X d 140 37 LS ([.int x]) M h = some (.inl (some (.int x)), M, h) := r_iret mt_140 dX5_hold_37 rfl
theorem e141_0 : Rn X d 141 0 LS ST M h = Rn X d 141 1 LS (.int (zN 0) :: ST) M h := r_iconst mt_141 dX5_spoiled_0 c_ic0
theorem e141_1 (ho : j_one l1 = true) : Rn X d 141 1 (l0 :: l1 :: l2 :: t) (.int x :: ST) M h = Rn X d 141 2 (l0 :: l1 :: some (.int x) :: t) ST M h := r_istore_n mt_141 dX5_spoiled_1 (by show 2 < _; simp only [List.length_cons]; omega) ho rfl
theorem e141_2 : Rn X d 141 2 (some (.ref a) :: t) ST M h = Rn X d 141 3 (some (.ref a) :: t) (.ref a :: ST) M h := r_aload_n mt_141 dX5_spoiled_2 rfl
theorem e141_3 : Rn X d 141 3 LS (.ref a :: ST) M h = q_g X (M a) 5 0 d 141 6 LS ST M h := s_get mt_141 dX5_spoiled_3 f_5_7
theorem e141_6 : Rn X d 141 6 LS ST M h = Rn X d 141 7 LS (.int (zN 1) :: ST) M h := r_iconst mt_141 dX5_spoiled_6 c_ic1
theorem e141_7 : Rn X d 141 7 LS (.int x :: .ref a :: ST) M h = q_ld X (M a) a x d 141 8 LS ST M h := s_iald mt_141 dX5_spoiled_7
theorem e141_8 (ho : j_one l2 = true) : Rn X d 141 8 (l0 :: l1 :: l2 :: l3 :: t) (.int x :: ST) M h = Rn X d 141 9 (l0 :: l1 :: l2 :: some (.int x) :: t) ST M h := r_istore_n mt_141 dX5_spoiled_8 (by show 3 < _; simp only [List.length_cons]; omega) ho rfl
theorem e141_9 : Rn X d 141 9 (l0 :: l1 :: l2 :: some (.int x) :: t) ST M h = Rn X d 141 10 (l0 :: l1 :: l2 :: some (.int x) :: t) (.int x :: ST) M h := r_iload_n mt_141 dX5_spoiled_9 rfl
theorem e141_10 : Rn X d 141 10 (some (.ref a) :: t) ST M h = Rn X d 141 11 (some (.ref a) :: t) (.ref a :: ST) M h := r_aload_n mt_141 dX5_spoiled_10 rfl
theorem e141_11 : Rn X d 141 11 LS (.ref a :: ST) M h = q_g X (M a) 5 0 d 141 14 LS ST M h := s_get mt_141 dX5_spoiled_11 f_5_7
theorem e141_14 : Rn X d 141 14 LS ST M h = Rn X d 141 15 LS (.int (zN 2) :: ST) M h := r_iconst mt_141 dX5_spoiled_14 c_ic2
theorem e141_15 : Rn X d 141 15 LS (.int x :: .ref a :: ST) M h = q_ld X (M a) a x d 141 16 LS ST M h := s_iald mt_141 dX5_spoiled_15
theorem e141_16 : Rn X d 141 16 LS (.int y :: .int x :: ST) M h = q_le X y x d 141 57 19 LS ST M h := s_icge mt_141 dX5_spoiled_16 rfl
theorem e141_19 : Rn X d 141 19 (l0 :: l1 :: some (.int x) :: t) ST M h = Rn X d 141 20 (l0 :: l1 :: some (.int x) :: t) (.int x :: ST) M h := r_iload_n mt_141 dX5_spoiled_19 rfl
theorem e141_20 : Rn X d 141 20 (l0 :: some (.int x) :: t) ST M h = Rn X d 141 21 (l0 :: some (.int x) :: t) (.int x :: ST) M h := r_iload_n mt_141 dX5_spoiled_20 rfl
theorem e141_21 : Rn X d 141 21 LS (.int x :: ST) M h = q_eq X x (zN 0) d 141 40 24 LS ST M h := s_ifeq mt_141 dX5_spoiled_21 rfl
theorem e141_24 : Rn X d 141 24 (some (.ref a) :: t) ST M h = Rn X d 141 25 (some (.ref a) :: t) (.ref a :: ST) M h := r_aload_n mt_141 dX5_spoiled_24 rfl
theorem e141_25 : Rn X d 141 25 (l0 :: l1 :: l2 :: some (.int x) :: t) ST M h = Rn X d 141 26 (l0 :: l1 :: l2 :: some (.int x) :: t) (.int x :: ST) M h := r_iload_n mt_141 dX5_spoiled_25 rfl
theorem e141_26 (hcs : Nat.ble (j_cs ST) 8 = true) : Rn X (d + 1) 141 26 LS (.int x :: .ref a :: ST) M h = j_rc (M a) 5 (q_k X (Rn X d 112 0 [some (.ref a), some (.int x)] [] M (j_h0 h)) h (d + 1) 141 29 LS ST) := s_callV mt_141 dX5_spoiled_26 cl_5_60 mt_112 rfl rfl (Nat.le_add_left _ _) rfl rfl rfl rfl hcs
theorem e141_29 : Rn X d 141 29 LS (.int x :: ST) M h = q_eq X x (zN 0) d 141 36 32 LS ST M h := s_ifeq mt_141 dX5_spoiled_29 rfl
theorem e141_32 : Rn X d 141 32 LS ST M h = Rn X d 141 33 LS (.int (zN 0) :: ST) M h := r_iconst mt_141 dX5_spoiled_32 c_ic0
theorem e141_33 : Rn X d 141 33 LS ST M h = Rn X d 141 49 LS ST M h := r_goto mt_141 dX5_spoiled_33 rfl
theorem e141_36 : Rn X d 141 36 LS ST M h = Rn X d 141 37 LS (.int (zN 1) :: ST) M h := r_iconst mt_141 dX5_spoiled_36 c_ic1
theorem e141_37 : Rn X d 141 37 LS ST M h = Rn X d 141 49 LS ST M h := r_goto mt_141 dX5_spoiled_37 rfl
theorem e141_40 : Rn X d 141 40 (some (.ref a) :: t) ST M h = Rn X d 141 41 (some (.ref a) :: t) (.ref a :: ST) M h := r_aload_n mt_141 dX5_spoiled_40 rfl
theorem e141_41 : Rn X d 141 41 (l0 :: l1 :: l2 :: some (.int x) :: t) ST M h = Rn X d 141 42 (l0 :: l1 :: l2 :: some (.int x) :: t) (.int x :: ST) M h := r_iload_n mt_141 dX5_spoiled_41 rfl
theorem e141_42 : Rn X d 141 42 LS ST M h = Rn X d 141 43 LS (.int (zN 4) :: ST) M h := r_iconst mt_141 dX5_spoiled_42 c_ic4
theorem e141_43 (hcs : Nat.ble (j_cs ST) 8 = true) : Rn X (d + 1) 141 43 LS (.int y :: .int x :: .ref a :: ST) M h = j_rc (M a) 5 (q_k X (Rn X d 108 0 [some (.ref a), some (.int x), some (.int y)] [] M (j_h0 h)) h (d + 1) 141 46 LS ST) := s_callV mt_141 dX5_spoiled_43 cl_5_37 mt_108 rfl rfl (Nat.le_add_left _ _) rfl rfl rfl rfl hcs
theorem e141_46 (hcs : Nat.ble (j_cs ST) 8 = true) : Rn X (d + 1) 141 46 LS (.int x :: ST) M h = q_k X (Rn X d 128 0 [some (.int x)] [] M (j_h0 h)) h (d + 1) 141 49 LS ST := s_callS (Or.inl rfl) mt_141 dX5_spoiled_46 cl_5_104 mt_128 rfl (Nat.le_add_left _ _) rfl rfl rfl rfl hcs
theorem e141_49 : Rn X d 141 49 LS (.int y :: .int x :: ST) M h = Rn X d 141 50 LS (.int (x + y) :: ST) M h := r_iadd mt_141 dX5_spoiled_49
theorem e141_50 (ho : j_one l1 = true) : Rn X d 141 50 (l0 :: l1 :: l2 :: t) (.int x :: ST) M h = Rn X d 141 51 (l0 :: l1 :: some (.int x) :: t) ST M h := r_istore_n mt_141 dX5_spoiled_50 (by show 2 < _; simp only [List.length_cons]; omega) ho rfl
theorem e141_51 (ho : j_one l2 = true) : Rn X d 141 51 (l0 :: l1 :: l2 :: some (.int x) :: t) ST M h = Rn X d 141 54 (l0 :: l1 :: l2 :: some (.int (x + (zN 1))) :: t) ST M h := r_iinc mt_141 dX5_spoiled_51 rfl (by simp only [List.length_cons]; omega) ho c_ic1 rfl
theorem e141_54 : Rn X d 141 54 LS ST M h = Rn X d 141 9 LS ST M h := r_goto mt_141 dX5_spoiled_54 rfl
theorem e141_57 : Rn X d 141 57 (l0 :: l1 :: some (.int x) :: t) ST M h = Rn X d 141 58 (l0 :: l1 :: some (.int x) :: t) (.int x :: ST) M h := r_iload_n mt_141 dX5_spoiled_57 rfl
theorem e141_58 : Rn X d 141 58 LS ([.int x]) M h = some (.inl (some (.int x)), M, h) := r_iret mt_141 dX5_spoiled_58 rfl
theorem e142_0 : Rn X d 142 0 (l0 :: some (.int x) :: t) ST M h = Rn X d 142 1 (l0 :: some (.int x) :: t) (.int x :: ST) M h := r_iload_n mt_142 dX5_number_0 rfl
theorem e142_1_0 : Rn X d 142 1 LS (.int (zN 0) :: ST) M h = Rn X d 142 40 LS ST M h := s_tab (off := 39) mt_142 dX5_number_1 (by decide) (by decide) (by decide +kernel) rfl
theorem e142_1_1 : Rn X d 142 1 LS (.int (zN 1) :: ST) M h = Rn X d 142 40 LS ST M h := s_tab (off := 39) mt_142 dX5_number_1 (by decide) (by decide) (by decide +kernel) rfl
theorem e142_1_2 : Rn X d 142 1 LS (.int (zN 2) :: ST) M h = Rn X d 142 40 LS ST M h := s_tab (off := 39) mt_142 dX5_number_1 (by decide) (by decide) (by decide +kernel) rfl
theorem e142_1_3 : Rn X d 142 1 LS (.int (zN 3) :: ST) M h = Rn X d 142 47 LS ST M h := s_tab (off := 46) mt_142 dX5_number_1 (by decide) (by decide) (by decide +kernel) rfl
theorem e142_1_4 : Rn X d 142 1 LS (.int (zN 4) :: ST) M h = Rn X d 142 52 LS ST M h := s_tab (off := 51) mt_142 dX5_number_1 (by decide) (by decide) (by decide +kernel) rfl
theorem e142_1_5 : Rn X d 142 1 LS (.int (zN 5) :: ST) M h = Rn X d 142 58 LS ST M h := s_tab (off := 57) mt_142 dX5_number_1 (by decide) (by decide) (by decide +kernel) rfl
theorem e142_1_h {v : Nat} (h0 : v < 2147483648) (h1 : 5 < v) : Rn X d 142 1 LS (.int (zN v) :: ST) M h = Rn X d 142 64 LS ST M h := s_tabD mt_142 dX5_number_1 rfl h0 (Or.inr (by omega))
theorem e142_1_m {v : Nat} (h0 : v < 2147483648) : Rn X d 142 1 LS (.int (zM v) :: ST) M h = Rn X d 142 64 LS ST M h := s_tabM mt_142 dX5_number_1 rfl (by decide) h0
theorem e142_40 : Rn X d 142 40 (some (.ref a) :: t) ST M h = Rn X d 142 41 (some (.ref a) :: t) (.ref a :: ST) M h := r_aload_n mt_142 dX5_number_40 rfl
theorem e142_41 : Rn X d 142 41 LS (.ref a :: ST) M h = q_g X (M a) 5 0 d 142 44 LS ST M h := s_get mt_142 dX5_number_41 f_5_7
theorem e142_44 : Rn X d 142 44 (l0 :: some (.int x) :: t) ST M h = Rn X d 142 45 (l0 :: some (.int x) :: t) (.int x :: ST) M h := r_iload_n mt_142 dX5_number_44 rfl
theorem e142_45 : Rn X d 142 45 LS (.int x :: .ref a :: ST) M h = q_ld X (M a) a x d 142 46 LS ST M h := s_iald mt_142 dX5_number_45
theorem e142_46 : Rn X d 142 46 LS ([.int x]) M h = some (.inl (some (.int x)), M, h) := r_iret mt_142 dX5_number_46 rfl
theorem e142_47 : Rn X d 142 47 (some (.ref a) :: t) ST M h = Rn X d 142 48 (some (.ref a) :: t) (.ref a :: ST) M h := r_aload_n mt_142 dX5_number_47 rfl
theorem e142_48 (hcs : Nat.ble (j_cs ST) 8 = true) : Rn X (d + 1) 142 48 LS (.ref a :: ST) M h = j_rc (M a) 5 (q_k X (Rn X d 113 0 [some (.ref a)] [] M (j_h0 h)) h (d + 1) 142 51 LS ST) := s_callV mt_142 dX5_number_48 cl_5_67 mt_113 rfl rfl (Nat.le_add_left _ _) rfl rfl rfl rfl hcs
theorem e142_51 : Rn X d 142 51 LS ([.int x]) M h = some (.inl (some (.int x)), M, h) := r_iret mt_142 dX5_number_51 rfl
theorem e142_52 : Rn X d 142 52 (some (.ref a) :: t) ST M h = Rn X d 142 53 (some (.ref a) :: t) (.ref a :: ST) M h := r_aload_n mt_142 dX5_number_52 rfl
theorem e142_53 : Rn X d 142 53 LS ST M h = Rn X d 142 54 LS (.int (zN 0) :: ST) M h := r_iconst mt_142 dX5_number_53 c_ic0
theorem e142_54 (hcs : Nat.ble (j_cs ST) 8 = true) : Rn X (d + 1) 142 54 LS (.int x :: .ref a :: ST) M h = j_rc (M a) 5 (q_k X (Rn X d 141 0 [some (.ref a), some (.int x), none, none] [] M (j_h0 h)) h (d + 1) 142 57 LS ST) := s_callV mt_142 dX5_number_54 cl_5_125 mt_141 rfl rfl (Nat.le_add_left _ _) rfl rfl rfl rfl hcs
theorem e142_57 : Rn X d 142 57 LS ([.int x]) M h = some (.inl (some (.int x)), M, h) := r_iret mt_142 dX5_number_57 rfl
theorem e142_58 : Rn X d 142 58 (some (.ref a) :: t) ST M h = Rn X d 142 59 (some (.ref a) :: t) (.ref a :: ST) M h := r_aload_n mt_142 dX5_number_58 rfl
theorem e142_59 : Rn X d 142 59 LS ST M h = Rn X d 142 60 LS (.int (zN 1) :: ST) M h := r_iconst mt_142 dX5_number_59 c_ic1
theorem e142_60 (hcs : Nat.ble (j_cs ST) 8 = true) : Rn X (d + 1) 142 60 LS (.int x :: .ref a :: ST) M h = j_rc (M a) 5 (q_k X (Rn X d 141 0 [some (.ref a), some (.int x), none, none] [] M (j_h0 h)) h (d + 1) 142 63 LS ST) := s_callV mt_142 dX5_number_60 cl_5_125 mt_141 rfl rfl (Nat.le_add_left _ _) rfl rfl rfl rfl hcs
theorem e142_63 : Rn X d 142 63 LS ([.int x]) M h = some (.inl (some (.int x)), M, h) := r_iret mt_142 dX5_number_63 rfl
theorem e142_64 : Rn X d 142 64 (some (.ref a) :: t) ST M h = Rn X d 142 65 (some (.ref a) :: t) (.ref a :: ST) M h := r_aload_n mt_142 dX5_number_64 rfl
theorem e142_65 : Rn X d 142 65 LS (.ref a :: ST) M h = q_g X (M a) 5 0 d 142 68 LS ST M h := s_get mt_142 dX5_number_65 f_5_7
theorem e142_68 : Rn X d 142 68 LS ST M h = Rn X d 142 69 LS (.int (zN 3) :: ST) M h := r_iconst mt_142 dX5_number_68 c_ic3
theorem e142_69 : Rn X d 142 69 LS (.int x :: .ref a :: ST) M h = q_ld X (M a) a x d 142 70 LS ST M h := s_iald mt_142 dX5_number_69
theorem e142_70 : Rn X d 142 70 LS ([.int x]) M h = some (.inl (some (.int x)), M, h) := r_iret mt_142 dX5_number_70 rfl
theorem e143_0 : Rn X d 143 0 (l0 :: some (.int x) :: t) ST M h = Rn X d 143 1 (l0 :: some (.int x) :: t) (.int x :: ST) M h := r_iload_n mt_143 dX5_value_0 rfl
theorem e143_1 : Rn X d 143 1 LS ST M h = Rn X d 143 2 LS (.int (zN 0) :: ST) M h := r_iconst mt_143 dX5_value_1 c_ic0
theorem e143_2 : Rn X d 143 2 LS ST M h = Rn X d 143 4 LS (.int (zN 6) :: ST) M h := r_bipush mt_143 dX5_value_2 c_bi6
theorem e143_4 (hcs : Nat.ble (j_cs ST) 8 = true) : Rn X (d + 1) 143 4 LS (.int z :: .int y :: .int x :: ST) M h = q_k X (Rn X d 104 0 [some (.int x), some (.int y), some (.int z)] [] M (j_h0 h)) h (d + 1) 143 7 LS ST := s_callS (Or.inl rfl) mt_143 dX5_value_4 cl_5_33 mt_104 rfl (Nat.le_add_left _ _) rfl rfl rfl rfl hcs
theorem e143_7 : Rn X d 143 7 LS (.int x :: ST) M h = q_eq X x (zN 0) d 143 22 10 LS ST M h := s_ifeq mt_143 dX5_value_7 rfl
theorem e143_10 : Rn X d 143 10 (some (.ref a) :: t) ST M h = Rn X d 143 11 (some (.ref a) :: t) (.ref a :: ST) M h := r_aload_n mt_143 dX5_value_10 rfl
theorem e143_11 : Rn X d 143 11 (some (.ref a) :: t) ST M h = Rn X d 143 12 (some (.ref a) :: t) (.ref a :: ST) M h := r_aload_n mt_143 dX5_value_11 rfl
theorem e143_12 : Rn X d 143 12 (l0 :: some (.int x) :: t) ST M h = Rn X d 143 13 (l0 :: some (.int x) :: t) (.int x :: ST) M h := r_iload_n mt_143 dX5_value_12 rfl
theorem e143_13 (hcs : Nat.ble (j_cs ST) 8 = true) : Rn X (d + 1) 143 13 LS (.int x :: .ref a :: ST) M h = j_rc (M a) 5 (q_k X (Rn X d 142 0 [some (.ref a), some (.int x)] [] M (j_h0 h)) h (d + 1) 143 16 LS ST) := s_callV mt_143 dX5_value_13 cl_5_129 mt_142 rfl rfl (Nat.le_add_left _ _) rfl rfl rfl rfl hcs
theorem e143_16 (hcs : Nat.ble (j_cs ST) 8 = true) : Rn X (d + 1) 143 16 LS (.int x :: .ref a :: ST) M h = j_rc (M a) 5 (q_k X (Rn X d 103 0 [some (.ref a), some (.int x)] [] M (j_h0 h)) h (d + 1) 143 19 LS ST) := s_callV mt_143 dX5_value_16 cl_5_54 mt_103 rfl rfl (Nat.le_add_left _ _) rfl rfl rfl rfl hcs
theorem e143_19 : Rn X d 143 19 LS ST M h = Rn X d 143 27 LS ST M h := r_goto mt_143 dX5_value_19 rfl
theorem e143_22 : Rn X d 143 22 (some (.ref a) :: t) ST M h = Rn X d 143 23 (some (.ref a) :: t) (.ref a :: ST) M h := r_aload_n mt_143 dX5_value_22 rfl
theorem e143_23 : Rn X d 143 23 LS ST M h = Rn X d 143 24 LS (.int (zN 1) :: ST) M h := r_iconst mt_143 dX5_value_23 c_ic1
theorem e143_24 (hcs : Nat.ble (j_cs ST) 8 = true) : Rn X (d + 1) 143 24 LS (.int x :: .ref a :: ST) M h = j_rc (M a) 5 (q_k X (Rn X d 102 0 [some (.ref a), some (.int x)] [] M (j_h0 h)) h (d + 1) 143 27 LS ST) := s_callV mt_143 dX5_value_24 cl_5_44 mt_102 rfl rfl (Nat.le_add_left _ _) rfl rfl rfl rfl hcs
theorem e143_27 : Rn X d 143 27 LS ([.int x]) M h = some (.inl (some (.int x)), M, h) := r_iret mt_143 dX5_value_27 rfl
theorem e144_0 : Rn X d 144 0 (l0 :: some (.int x) :: t) ST M h = Rn X d 144 1 (l0 :: some (.int x) :: t) (.int x :: ST) M h := r_iload_n mt_144 dX5_ahead_0 rfl
theorem e144_1 (hcs : Nat.ble (j_cs ST) 8 = true) : Rn X (d + 1) 144 1 LS (.int x :: ST) M h = q_k X (Rn X d 110 0 [some (.int x)] [] M (j_h0 h)) h (d + 1) 144 4 LS ST := s_callS (Or.inl rfl) mt_144 dX5_ahead_1 cl_5_75 mt_110 rfl (Nat.le_add_left _ _) rfl rfl rfl rfl hcs
theorem e144_4 : Rn X d 144 4 LS (.int x :: ST) M h = q_eq X x (zN 0) d 144 19 7 LS ST M h := s_ifeq mt_144 dX5_ahead_4 rfl
theorem e144_7 : Rn X d 144 7 (some (.ref a) :: t) ST M h = Rn X d 144 8 (some (.ref a) :: t) (.ref a :: ST) M h := r_aload_n mt_144 dX5_ahead_7 rfl
theorem e144_8 : Rn X d 144 8 (some (.ref a) :: t) ST M h = Rn X d 144 9 (some (.ref a) :: t) (.ref a :: ST) M h := r_aload_n mt_144 dX5_ahead_8 rfl
theorem e144_9 : Rn X d 144 9 (l0 :: some (.int x) :: t) ST M h = Rn X d 144 10 (l0 :: some (.int x) :: t) (.int x :: ST) M h := r_iload_n mt_144 dX5_ahead_9 rfl
theorem e144_10 (hcs : Nat.ble (j_cs ST) 8 = true) : Rn X (d + 1) 144 10 LS (.int x :: .ref a :: ST) M h = j_rc (M a) 5 (q_k X (Rn X d 120 0 [some (.ref a), some (.int x)] [] M (j_h0 h)) h (d + 1) 144 13 LS ST) := s_callV mt_144 dX5_ahead_10 cl_5_78 mt_120 rfl rfl (Nat.le_add_left _ _) rfl rfl rfl rfl hcs
theorem e144_13 (hcs : Nat.ble (j_cs ST) 8 = true) : Rn X (d + 1) 144 13 LS (.int x :: .ref a :: ST) M h = j_rc (M a) 5 (q_k X (Rn X d 103 0 [some (.ref a), some (.int x)] [] M (j_h0 h)) h (d + 1) 144 16 LS ST) := s_callV mt_144 dX5_ahead_13 cl_5_54 mt_103 rfl rfl (Nat.le_add_left _ _) rfl rfl rfl rfl hcs
theorem e144_16 : Rn X d 144 16 LS ST M h = Rn X d 144 24 LS ST M h := r_goto mt_144 dX5_ahead_16 rfl
theorem e144_19 : Rn X d 144 19 (some (.ref a) :: t) ST M h = Rn X d 144 20 (some (.ref a) :: t) (.ref a :: ST) M h := r_aload_n mt_144 dX5_ahead_19 rfl
theorem e144_20 : Rn X d 144 20 LS ST M h = Rn X d 144 21 LS (.int (zN 1) :: ST) M h := r_iconst mt_144 dX5_ahead_20 c_ic1
theorem e144_21 (hcs : Nat.ble (j_cs ST) 8 = true) : Rn X (d + 1) 144 21 LS (.int x :: .ref a :: ST) M h = j_rc (M a) 5 (q_k X (Rn X d 102 0 [some (.ref a), some (.int x)] [] M (j_h0 h)) h (d + 1) 144 24 LS ST) := s_callV mt_144 dX5_ahead_21 cl_5_44 mt_102 rfl rfl (Nat.le_add_left _ _) rfl rfl rfl rfl hcs
theorem e144_24 : Rn X d 144 24 LS ([.int x]) M h = some (.inl (some (.int x)), M, h) := r_iret mt_144 dX5_ahead_24 rfl
theorem e145_0 : Rn X d 145 0 (l0 :: some (.int x) :: t) ST M h = Rn X d 145 1 (l0 :: some (.int x) :: t) (.int x :: ST) M h := r_iload_n mt_145 dX5_stop_0 rfl
theorem e145_1 (hcs : Nat.ble (j_cs ST) 8 = true) : Rn X (d + 1) 145 1 LS (.int x :: ST) M h = q_k X (Rn X d 110 0 [some (.int x)] [] M (j_h0 h)) h (d + 1) 145 4 LS ST := s_callS (Or.inl rfl) mt_145 dX5_stop_1 cl_5_75 mt_110 rfl (Nat.le_add_left _ _) rfl rfl rfl rfl hcs
theorem e145_4 : Rn X d 145 4 LS (.int x :: ST) M h = q_eq X x (zN 0) d 145 19 7 LS ST M h := s_ifeq mt_145 dX5_stop_4 rfl
theorem e145_7 : Rn X d 145 7 (some (.ref a) :: t) ST M h = Rn X d 145 8 (some (.ref a) :: t) (.ref a :: ST) M h := r_aload_n mt_145 dX5_stop_7 rfl
theorem e145_8 : Rn X d 145 8 (some (.ref a) :: t) ST M h = Rn X d 145 9 (some (.ref a) :: t) (.ref a :: ST) M h := r_aload_n mt_145 dX5_stop_8 rfl
theorem e145_9 : Rn X d 145 9 (l0 :: some (.int x) :: t) ST M h = Rn X d 145 10 (l0 :: some (.int x) :: t) (.int x :: ST) M h := r_iload_n mt_145 dX5_stop_9 rfl
theorem e145_10 (hcs : Nat.ble (j_cs ST) 8 = true) : Rn X (d + 1) 145 10 LS (.int x :: .ref a :: ST) M h = j_rc (M a) 5 (q_k X (Rn X d 119 0 [some (.ref a), some (.int x), none] [] M (j_h0 h)) h (d + 1) 145 13 LS ST) := s_callV mt_145 dX5_stop_10 cl_5_64 mt_119 rfl rfl (Nat.le_add_left _ _) rfl rfl rfl rfl hcs
theorem e145_13 (hcs : Nat.ble (j_cs ST) 8 = true) : Rn X (d + 1) 145 13 LS (.int x :: .ref a :: ST) M h = j_rc (M a) 5 (q_k X (Rn X d 103 0 [some (.ref a), some (.int x)] [] M (j_h0 h)) h (d + 1) 145 16 LS ST) := s_callV mt_145 dX5_stop_13 cl_5_54 mt_103 rfl rfl (Nat.le_add_left _ _) rfl rfl rfl rfl hcs
theorem e145_16 : Rn X d 145 16 LS ST M h = Rn X d 145 24 LS ST M h := r_goto mt_145 dX5_stop_16 rfl
theorem e145_19 : Rn X d 145 19 (some (.ref a) :: t) ST M h = Rn X d 145 20 (some (.ref a) :: t) (.ref a :: ST) M h := r_aload_n mt_145 dX5_stop_19 rfl
theorem e145_20 : Rn X d 145 20 LS ST M h = Rn X d 145 21 LS (.int (zN 1) :: ST) M h := r_iconst mt_145 dX5_stop_20 c_ic1
theorem e145_21 (hcs : Nat.ble (j_cs ST) 8 = true) : Rn X (d + 1) 145 21 LS (.int x :: .ref a :: ST) M h = j_rc (M a) 5 (q_k X (Rn X d 102 0 [some (.ref a), some (.int x)] [] M (j_h0 h)) h (d + 1) 145 24 LS ST) := s_callV mt_145 dX5_stop_21 cl_5_44 mt_102 rfl rfl (Nat.le_add_left _ _) rfl rfl rfl rfl hcs
theorem e145_24 : Rn X d 145 24 LS ([.int x]) M h = some (.inl (some (.int x)), M, h) := r_iret mt_145 dX5_stop_24 rfl
theorem e146_0 : Rn X d 146 0 LS ST M h = Rn X d 146 1 LS (.int (zN 1) :: ST) M h := r_iconst mt_146 dX5_thinks_0 c_ic1
theorem e146_1 (ho : j_one l2 = true) : Rn X d 146 1 (l0 :: l1 :: l2 :: l3 :: t) (.int x :: ST) M h = Rn X d 146 2 (l0 :: l1 :: l2 :: some (.int x) :: t) ST M h := r_istore_n mt_146 dX5_thinks_1 (by show 3 < _; simp only [List.length_cons]; omega) ho rfl
theorem e146_2 : Rn X d 146 2 (l0 :: some (.int x) :: t) ST M h = Rn X d 146 3 (l0 :: some (.int x) :: t) (.int x :: ST) M h := r_iload_n mt_146 dX5_thinks_2 rfl
theorem e146_3 (ho : j_one l3 = true) : Rn X d 146 3 (l0 :: l1 :: l2 :: l3 :: l4 :: t) (.int x :: ST) M h = Rn X d 146 5 (l0 :: l1 :: l2 :: l3 :: some (.int x) :: t) ST M h := r_istore mt_146 dX5_thinks_3 (by show 4 < _; simp only [List.length_cons]; omega) ho rfl
theorem e146_5 : Rn X d 146 5 (l0 :: l1 :: l2 :: l3 :: some (.int x) :: t) ST M h = Rn X d 146 7 (l0 :: l1 :: l2 :: l3 :: some (.int x) :: t) (.int x :: ST) M h := r_iload mt_146 dX5_thinks_5 rfl
theorem e146_7 : Rn X d 146 7 (l0 :: l1 :: some (.int x) :: t) ST M h = Rn X d 146 8 (l0 :: l1 :: some (.int x) :: t) (.int x :: ST) M h := r_iload_n mt_146 dX5_thinks_7 rfl
theorem e146_8 : Rn X d 146 8 LS (.int y :: .int x :: ST) M h = q_le X y x d 146 47 11 LS ST M h := s_icge mt_146 dX5_thinks_8 rfl
theorem e146_11 : Rn X d 146 11 (l0 :: l1 :: l2 :: some (.int x) :: t) ST M h = Rn X d 146 12 (l0 :: l1 :: l2 :: some (.int x) :: t) (.int x :: ST) M h := r_iload_n mt_146 dX5_thinks_11 rfl
theorem e146_12 : Rn X d 146 12 LS (.int x :: ST) M h = q_eq X x (zN 0) d 146 28 15 LS ST M h := s_ifeq mt_146 dX5_thinks_12 rfl
theorem e146_15 : Rn X d 146 15 (some (.ref a) :: t) ST M h = Rn X d 146 16 (some (.ref a) :: t) (.ref a :: ST) M h := r_aload_n mt_146 dX5_thinks_15 rfl
theorem e146_16 : Rn X d 146 16 (l0 :: l1 :: l2 :: l3 :: some (.int x) :: t) ST M h = Rn X d 146 18 (l0 :: l1 :: l2 :: l3 :: some (.int x) :: t) (.int x :: ST) M h := r_iload mt_146 dX5_thinks_16 rfl
theorem e146_18 (hcs : Nat.ble (j_cs ST) 8 = true) : Rn X (d + 1) 146 18 LS (.int x :: .ref a :: ST) M h = j_rc (M a) 5 (q_k X (Rn X d 112 0 [some (.ref a), some (.int x)] [] M (j_h0 h)) h (d + 1) 146 21 LS ST) := s_callV mt_146 dX5_thinks_18 cl_5_60 mt_112 rfl rfl (Nat.le_add_left _ _) rfl rfl rfl rfl hcs
theorem e146_21 : Rn X d 146 21 LS (.int x :: ST) M h = q_eq X x (zN 0) d 146 28 24 LS ST M h := s_ifeq mt_146 dX5_thinks_21 rfl
theorem e146_24 : Rn X d 146 24 LS ST M h = Rn X d 146 25 LS (.int (zN 1) :: ST) M h := r_iconst mt_146 dX5_thinks_24 c_ic1
theorem e146_25 : Rn X d 146 25 LS ST M h = Rn X d 146 29 LS ST M h := r_goto mt_146 dX5_thinks_25 rfl
theorem e146_28 : Rn X d 146 28 LS ST M h = Rn X d 146 29 LS (.int (zN 0) :: ST) M h := r_iconst mt_146 dX5_thinks_28 c_ic0
theorem e146_29 (ho : j_one l2 = true) : Rn X d 146 29 (l0 :: l1 :: l2 :: l3 :: t) (.int x :: ST) M h = Rn X d 146 30 (l0 :: l1 :: l2 :: some (.int x) :: t) ST M h := r_istore_n mt_146 dX5_thinks_29 (by show 3 < _; simp only [List.length_cons]; omega) ho rfl
theorem e146_30 : Rn X d 146 30 (some (.ref a) :: t) ST M h = Rn X d 146 31 (some (.ref a) :: t) (.ref a :: ST) M h := r_aload_n mt_146 dX5_thinks_30 rfl
theorem e146_31 : Rn X d 146 31 (some (.ref a) :: t) ST M h = Rn X d 146 32 (some (.ref a) :: t) (.ref a :: ST) M h := r_aload_n mt_146 dX5_thinks_31 rfl
theorem e146_32 : Rn X d 146 32 LS (.ref a :: ST) M h = q_g X (M a) 5 6 d 146 35 LS ST M h := s_get mt_146 dX5_thinks_32 f_5_22
theorem e146_35 : Rn X d 146 35 LS ST M h = Rn X d 146 36 LS (.int (zN 0) :: ST) M h := r_iconst mt_146 dX5_thinks_35 c_ic0
theorem e146_36 : Rn X d 146 36 (l0 :: l1 :: l2 :: l3 :: some (.int x) :: t) ST M h = Rn X d 146 38 (l0 :: l1 :: l2 :: l3 :: some (.int x) :: t) (.int x :: ST) M h := r_iload mt_146 dX5_thinks_36 rfl
theorem e146_38 (hcs : Nat.ble (j_cs ST) 8 = true) : Rn X (d + 1) 146 38 LS (.int y :: .int x :: .ref b :: .ref a :: ST) M h = j_rc (M a) 5 (q_k X (Rn X d 118 0 [some (.ref a), some (.ref b), some (.int x), some (.int y), none, none, none, none, none] [] M (j_h0 h)) h (d + 1) 146 41 LS ST) := s_callV mt_146 dX5_thinks_38 cl_5_81 mt_118 rfl rfl (Nat.le_add_left _ _) rfl rfl rfl rfl hcs
theorem e146_41 (ho : j_one l3 = true) : Rn X d 146 41 (l0 :: l1 :: l2 :: l3 :: some (.int x) :: t) ST M h = Rn X d 146 44 (l0 :: l1 :: l2 :: l3 :: some (.int (x + (zN 1))) :: t) ST M h := r_iinc mt_146 dX5_thinks_41 rfl (by simp only [List.length_cons]; omega) ho c_ic1 rfl
theorem e146_44 : Rn X d 146 44 LS ST M h = Rn X d 146 5 LS ST M h := r_goto mt_146 dX5_thinks_44 rfl
theorem e146_47 : Rn X d 146 47 (l0 :: l1 :: l2 :: some (.int x) :: t) ST M h = Rn X d 146 48 (l0 :: l1 :: l2 :: some (.int x) :: t) (.int x :: ST) M h := r_iload_n mt_146 dX5_thinks_47 rfl
theorem e146_48 {v : Nat} (h0 : v < 2) : Rn X d 146 48 LS ([.int (zN v)]) M h = some (.inl (some (.int (zN v))), M, h) := s_zret mt_146 dX5_thinks_48 rfl h0
theorem e147_0 : Rn X d 147 0 LS ST M h = Rn X d 147 1 LS (.int (zN 0) :: ST) M h := r_iconst mt_147 dX5_takes_0 c_ic0
theorem e147_1 (ho : j_one l2 = true) : Rn X d 147 1 (l0 :: l1 :: l2 :: l3 :: t) (.int x :: ST) M h = Rn X d 147 2 (l0 :: l1 :: l2 :: some (.int x) :: t) ST M h := r_istore_n mt_147 dX5_takes_1 (by show 3 < _; simp only [List.length_cons]; omega) ho rfl
theorem e147_2 : Rn X d 147 2 (l0 :: l1 :: l2 :: some (.int x) :: t) ST M h = Rn X d 147 3 (l0 :: l1 :: l2 :: some (.int x) :: t) (.int x :: ST) M h := r_iload_n mt_147 dX5_takes_2 rfl
theorem e147_3 : Rn X d 147 3 LS ST M h = Rn X d 147 5 LS (.int (zN 8) :: ST) M h := r_bipush mt_147 dX5_takes_3 c_bi8
theorem e147_5 : Rn X d 147 5 LS (.int y :: .int x :: ST) M h = q_le X y x d 147 28 8 LS ST M h := s_icge mt_147 dX5_takes_5 rfl
theorem e147_8 : Rn X d 147 8 (some (.ref a) :: t) ST M h = Rn X d 147 9 (some (.ref a) :: t) (.ref a :: ST) M h := r_aload_n mt_147 dX5_takes_8 rfl
theorem e147_9 : Rn X d 147 9 LS (.ref a :: ST) M h = q_g X (M a) 5 6 d 147 12 LS ST M h := s_get mt_147 dX5_takes_9 f_5_22
theorem e147_12 : Rn X d 147 12 (l0 :: l1 :: l2 :: some (.int x) :: t) ST M h = Rn X d 147 13 (l0 :: l1 :: l2 :: some (.int x) :: t) (.int x :: ST) M h := r_iload_n mt_147 dX5_takes_12 rfl
theorem e147_13 : Rn X d 147 13 (some (.ref a) :: t) ST M h = Rn X d 147 14 (some (.ref a) :: t) (.ref a :: ST) M h := r_aload_n mt_147 dX5_takes_13 rfl
theorem e147_14 : Rn X d 147 14 (l0 :: some (.int x) :: t) ST M h = Rn X d 147 15 (l0 :: some (.int x) :: t) (.int x :: ST) M h := r_iload_n mt_147 dX5_takes_14 rfl
theorem e147_15 : Rn X d 147 15 (l0 :: l1 :: some (.int x) :: t) ST M h = Rn X d 147 16 (l0 :: l1 :: some (.int x) :: t) (.int x :: ST) M h := r_iload_n mt_147 dX5_takes_15 rfl
theorem e147_16 : Rn X d 147 16 (l0 :: l1 :: l2 :: some (.int x) :: t) ST M h = Rn X d 147 17 (l0 :: l1 :: l2 :: some (.int x) :: t) (.int x :: ST) M h := r_iload_n mt_147 dX5_takes_16 rfl
theorem e147_17 : Rn X d 147 17 LS (.int y :: .int x :: ST) M h = Rn X d 147 18 LS (.int (x + y) :: ST) M h := r_iadd mt_147 dX5_takes_17
theorem e147_18 (hcs : Nat.ble (j_cs ST) 8 = true) : Rn X (d + 1) 147 18 LS (.int y :: .int x :: .ref a :: ST) M h = j_rc (M a) 5 (q_k X (Rn X d 106 0 [some (.ref a), some (.int x), some (.int y)] [] M (j_h0 h)) h (d + 1) 147 21 LS ST) := s_callV mt_147 dX5_takes_18 cl_5_57 mt_106 rfl rfl (Nat.le_add_left _ _) rfl rfl rfl rfl hcs
theorem e147_21 : Rn X d 147 21 LS (.int y :: .int x :: .ref a :: ST) M h = q_st X (M a) a x y d 147 22 LS ST M h := s_iast mt_147 dX5_takes_21
theorem e147_22 (ho : j_one l2 = true) : Rn X d 147 22 (l0 :: l1 :: l2 :: some (.int x) :: t) ST M h = Rn X d 147 25 (l0 :: l1 :: l2 :: some (.int (x + (zN 1))) :: t) ST M h := r_iinc mt_147 dX5_takes_22 rfl (by simp only [List.length_cons]; omega) ho c_ic1 rfl
theorem e147_25 : Rn X d 147 25 LS ST M h = Rn X d 147 2 LS ST M h := r_goto mt_147 dX5_takes_25 rfl
theorem e147_28 : Rn X d 147 28 LS [] M h = some (.inl none, M, h) := r_vret mt_147 dX5_takes_28 rfl
theorem e148_0 : Rn X d 148 0 (some (.ref a) :: t) ST M h = Rn X d 148 1 (some (.ref a) :: t) (.ref a :: ST) M h := r_aload_n mt_148 dX5_slow_0 rfl
theorem e148_1 : Rn X d 148 1 LS ST M h = Rn X d 148 2 LS (.int (zN 0) :: ST) M h := r_iconst mt_148 dX5_slow_1 c_ic0
theorem e148_2 : Rn X d 148 2 LS ST M h = Rn X d 148 3 LS (.int (zN 4) :: ST) M h := r_iconst mt_148 dX5_slow_2 c_ic4
theorem e148_3 (hcs : Nat.ble (j_cs ST) 8 = true) : Rn X (d + 1) 148 3 LS (.int y :: .int x :: .ref a :: ST) M h = j_rc (M a) 5 (q_k X (Rn X d 106 0 [some (.ref a), some (.int x), some (.int y)] [] M (j_h0 h)) h (d + 1) 148 6 LS ST) := s_callV mt_148 dX5_slow_3 cl_5_57 mt_106 rfl rfl (Nat.le_add_left _ _) rfl rfl rfl rfl hcs
theorem e148_6 : Rn X d 148 6 (some (.ref a) :: t) ST M h = Rn X d 148 7 (some (.ref a) :: t) (.ref a :: ST) M h := r_aload_n mt_148 dX5_slow_6 rfl
theorem e148_7 : Rn X d 148 7 LS ST M h = Rn X d 148 8 LS (.int (zN 1) :: ST) M h := r_iconst mt_148 dX5_slow_7 c_ic1
theorem e148_8 : Rn X d 148 8 LS ST M h = Rn X d 148 9 LS (.int (zN 4) :: ST) M h := r_iconst mt_148 dX5_slow_8 c_ic4
theorem e148_9 (hcs : Nat.ble (j_cs ST) 8 = true) : Rn X (d + 1) 148 9 LS (.int y :: .int x :: .ref a :: ST) M h = j_rc (M a) 5 (q_k X (Rn X d 106 0 [some (.ref a), some (.int x), some (.int y)] [] M (j_h0 h)) h (d + 1) 148 12 LS ST) := s_callV mt_148 dX5_slow_9 cl_5_57 mt_106 rfl rfl (Nat.le_add_left _ _) rfl rfl rfl rfl hcs
theorem e148_12 : Rn X d 148 12 LS (.int y :: .int x :: ST) M h = q_eq X x y d 148 15 19 LS ST M h := s_icne mt_148 dX5_slow_12 rfl
theorem e148_15 : Rn X d 148 15 LS ST M h = Rn X d 148 16 LS (.int (zN 2) :: ST) M h := r_iconst mt_148 dX5_slow_15 c_ic2
theorem e148_16 : Rn X d 148 16 LS ST M h = Rn X d 148 39 LS ST M h := r_goto mt_148 dX5_slow_16 rfl
theorem e148_19 : Rn X d 148 19 (some (.ref a) :: t) ST M h = Rn X d 148 20 (some (.ref a) :: t) (.ref a :: ST) M h := r_aload_n mt_148 dX5_slow_19 rfl
theorem e148_20 : Rn X d 148 20 LS ST M h = Rn X d 148 21 LS (.int (zN 0) :: ST) M h := r_iconst mt_148 dX5_slow_20 c_ic0
theorem e148_21 : Rn X d 148 21 LS ST M h = Rn X d 148 22 LS (.int (zN 4) :: ST) M h := r_iconst mt_148 dX5_slow_21 c_ic4
theorem e148_22 (hcs : Nat.ble (j_cs ST) 8 = true) : Rn X (d + 1) 148 22 LS (.int y :: .int x :: .ref a :: ST) M h = j_rc (M a) 5 (q_k X (Rn X d 106 0 [some (.ref a), some (.int x), some (.int y)] [] M (j_h0 h)) h (d + 1) 148 25 LS ST) := s_callV mt_148 dX5_slow_22 cl_5_57 mt_106 rfl rfl (Nat.le_add_left _ _) rfl rfl rfl rfl hcs
theorem e148_25 : Rn X d 148 25 (some (.ref a) :: t) ST M h = Rn X d 148 26 (some (.ref a) :: t) (.ref a :: ST) M h := r_aload_n mt_148 dX5_slow_25 rfl
theorem e148_26 : Rn X d 148 26 LS ST M h = Rn X d 148 27 LS (.int (zN 1) :: ST) M h := r_iconst mt_148 dX5_slow_26 c_ic1
theorem e148_27 : Rn X d 148 27 LS ST M h = Rn X d 148 28 LS (.int (zN 4) :: ST) M h := r_iconst mt_148 dX5_slow_27 c_ic4
theorem e148_28 (hcs : Nat.ble (j_cs ST) 8 = true) : Rn X (d + 1) 148 28 LS (.int y :: .int x :: .ref a :: ST) M h = j_rc (M a) 5 (q_k X (Rn X d 106 0 [some (.ref a), some (.int x), some (.int y)] [] M (j_h0 h)) h (d + 1) 148 31 LS ST) := s_callV mt_148 dX5_slow_28 cl_5_57 mt_106 rfl rfl (Nat.le_add_left _ _) rfl rfl rfl rfl hcs
theorem e148_31 : Rn X d 148 31 LS (.int y :: .int x :: ST) M h = q_le X y x d 148 38 34 LS ST M h := s_icge mt_148 dX5_slow_31 rfl
theorem e148_34 : Rn X d 148 34 LS ST M h = Rn X d 148 35 LS (.int (zN 0) :: ST) M h := r_iconst mt_148 dX5_slow_34 c_ic0
theorem e148_35 : Rn X d 148 35 LS ST M h = Rn X d 148 39 LS ST M h := r_goto mt_148 dX5_slow_35 rfl
theorem e148_38 : Rn X d 148 38 LS ST M h = Rn X d 148 39 LS (.int (zN 1) :: ST) M h := r_iconst mt_148 dX5_slow_38 c_ic1
theorem e148_39 : Rn X d 148 39 LS ([.int x]) M h = some (.inl (some (.int x)), M, h) := r_iret mt_148 dX5_slow_39 rfl
theorem e149_0 : Rn X d 149 0 (l0 :: some (.int x) :: t) ST M h = Rn X d 149 1 (l0 :: some (.int x) :: t) (.int x :: ST) M h := r_iload_n mt_149 dX5_tons_0 rfl
theorem e149_1 : Rn X d 149 1 (some (.ref a) :: t) ST M h = Rn X d 149 2 (some (.ref a) :: t) (.ref a :: ST) M h := r_aload_n mt_149 dX5_tons_1 rfl
theorem e149_2 (hcs : Nat.ble (j_cs ST) 8 = true) : Rn X (d + 1) 149 2 LS (.ref a :: ST) M h = j_rc (M a) 5 (q_k X (Rn X d 121 0 [some (.ref a)] [] M (j_h0 h)) h (d + 1) 149 5 LS ST) := s_callV mt_149 dX5_tons_2 cl_5_88 mt_121 rfl rfl (Nat.le_add_left _ _) rfl rfl rfl rfl hcs
theorem e149_5 : Rn X d 149 5 (some (.ref a) :: t) ST M h = Rn X d 149 6 (some (.ref a) :: t) (.ref a :: ST) M h := r_aload_n mt_149 dX5_tons_5 rfl
theorem e149_6 : Rn X d 149 6 LS (.ref a :: ST) M h = q_g X (M a) 5 0 d 149 9 LS ST M h := s_get mt_149 dX5_tons_6 f_5_7
theorem e149_9 : Rn X d 149 9 LS ST M h = Rn X d 149 10 LS (.int (zN 2) :: ST) M h := r_iconst mt_149 dX5_tons_9 c_ic2
theorem e149_10 : Rn X d 149 10 LS (.int x :: .ref a :: ST) M h = q_ld X (M a) a x d 149 11 LS ST M h := s_iald mt_149 dX5_tons_10
theorem e149_11 (hcs : Nat.ble (j_cs ST) 8 = true) : Rn X (d + 1) 149 11 LS (.int z :: .int y :: .int x :: ST) M h = q_k X (Rn X d 104 0 [some (.int x), some (.int y), some (.int z)] [] M (j_h0 h)) h (d + 1) 149 14 LS ST := s_callS (Or.inl rfl) mt_149 dX5_tons_11 cl_5_33 mt_104 rfl (Nat.le_add_left _ _) rfl rfl rfl rfl hcs
theorem e149_14 : Rn X d 149 14 LS (.int x :: ST) M h = q_eq X x (zN 0) d 149 17 19 LS ST M h := s_ifne mt_149 dX5_tons_14 rfl
theorem e149_17 : Rn X d 149 17 LS ST M h = Rn X d 149 18 LS (.int (zM 0) :: ST) M h := r_iconst mt_149 dX5_tons_17 c_icm1
theorem e149_18 : Rn X d 149 18 LS ([.int x]) M h = some (.inl (some (.int x)), M, h) := r_iret mt_149 dX5_tons_18 rfl
theorem e149_19 : Rn X d 149 19 (some (.ref a) :: t) ST M h = Rn X d 149 20 (some (.ref a) :: t) (.ref a :: ST) M h := r_aload_n mt_149 dX5_tons_19 rfl
theorem e149_20 : Rn X d 149 20 (some (.ref a) :: t) ST M h = Rn X d 149 21 (some (.ref a) :: t) (.ref a :: ST) M h := r_aload_n mt_149 dX5_tons_20 rfl
theorem e149_21 (hcs : Nat.ble (j_cs ST) 8 = true) : Rn X (d + 1) 149 21 LS (.ref a :: ST) M h = j_rc (M a) 5 (q_k X (Rn X d 148 0 [some (.ref a)] [] M (j_h0 h)) h (d + 1) 149 24 LS ST) := s_callV mt_149 dX5_tons_21 cl_5_132 mt_148 rfl rfl (Nat.le_add_left _ _) rfl rfl rfl rfl hcs
theorem e149_24 : Rn X d 149 24 LS ST M h = Rn X d 149 25 LS (.int (zN 2) :: ST) M h := r_iconst mt_149 dX5_tons_24 c_ic2
theorem e149_25 : Rn X d 149 25 LS (.int y :: .int x :: ST) M h = q_rm X x y d 149 26 LS ST M h := s_irem mt_149 dX5_tons_25
theorem e149_26 : Rn X d 149 26 LS ST M h = Rn X d 149 28 LS (.int (zN 13) :: ST) M h := r_bipush mt_149 dX5_tons_26 c_bi13
theorem e149_28 (hcs : Nat.ble (j_cs ST) 8 = true) : Rn X (d + 1) 149 28 LS (.int y :: .int x :: .ref a :: ST) M h = j_rc (M a) 5 (q_k X (Rn X d 147 0 [some (.ref a), some (.int x), some (.int y), none] [] M (j_h0 h)) h (d + 1) 149 31 LS ST) := s_callV mt_149 dX5_tons_28 cl_5_135 mt_147 rfl rfl (Nat.le_add_left _ _) rfl rfl rfl rfl hcs
theorem e149_31 : Rn X d 149 31 (some (.ref a) :: t) ST M h = Rn X d 149 32 (some (.ref a) :: t) (.ref a :: ST) M h := r_aload_n mt_149 dX5_tons_31 rfl
theorem e149_32 : Rn X d 149 32 (some (.ref a) :: t) ST M h = Rn X d 149 33 (some (.ref a) :: t) (.ref a :: ST) M h := r_aload_n mt_149 dX5_tons_32 rfl
theorem e149_33 (hcs : Nat.ble (j_cs ST) 8 = true) : Rn X (d + 1) 149 33 LS (.ref a :: ST) M h = j_rc (M a) 5 (q_k X (Rn X d 121 0 [some (.ref a)] [] M (j_h0 h)) h (d + 1) 149 36 LS ST) := s_callV mt_149 dX5_tons_33 cl_5_88 mt_121 rfl rfl (Nat.le_add_left _ _) rfl rfl rfl rfl hcs
theorem e149_36 : Rn X d 149 36 (l0 :: some (.int x) :: t) ST M h = Rn X d 149 37 (l0 :: some (.int x) :: t) (.int x :: ST) M h := r_iload_n mt_149 dX5_tons_36 rfl
theorem e149_37 (hcs : Nat.ble (j_cs ST) 8 = true) : Rn X (d + 1) 149 37 LS (.int y :: .int x :: .ref a :: ST) M h = j_rc (M a) 5 (q_k X (Rn X d 146 0 [some (.ref a), some (.int x), some (.int y), none, none] [] M (j_h0 h)) h (d + 1) 149 40 LS ST) := s_callV mt_149 dX5_tons_37 cl_5_139 mt_146 rfl rfl (Nat.le_add_left _ _) rfl rfl rfl rfl hcs
theorem e149_40 : Rn X d 149 40 LS (.int x :: ST) M h = q_eq X x (zN 0) d 149 52 43 LS ST M h := s_ifeq mt_149 dX5_tons_40 rfl
theorem e149_43 : Rn X d 149 43 (some (.ref a) :: t) ST M h = Rn X d 149 44 (some (.ref a) :: t) (.ref a :: ST) M h := r_aload_n mt_149 dX5_tons_43 rfl
theorem e149_44 : Rn X d 149 44 LS (.ref a :: ST) M h = q_g X (M a) 5 6 d 149 47 LS ST M h := s_get mt_149 dX5_tons_44 f_5_22
theorem e149_47 : Rn X d 149 47 (l0 :: l1 :: some (.int x) :: t) ST M h = Rn X d 149 48 (l0 :: l1 :: some (.int x) :: t) (.int x :: ST) M h := r_iload_n mt_149 dX5_tons_47 rfl
theorem e149_48 : Rn X d 149 48 LS (.int x :: .ref a :: ST) M h = q_ld X (M a) a x d 149 49 LS ST M h := s_iald mt_149 dX5_tons_48
theorem e149_49 : Rn X d 149 49 LS ST M h = Rn X d 149 53 LS ST M h := r_goto mt_149 dX5_tons_49 rfl
theorem e149_52 : Rn X d 149 52 LS ST M h = Rn X d 149 53 LS (.int (zM 0) :: ST) M h := r_iconst mt_149 dX5_tons_52 c_icm1
theorem e149_53 : Rn X d 149 53 LS ([.int x]) M h = some (.inl (some (.int x)), M, h) := r_iret mt_149 dX5_tons_53 rfl
theorem e150_0 : Rn X d 150 0 (l0 :: l1 :: some (.int x) :: t) ST M h = Rn X d 150 1 (l0 :: l1 :: some (.int x) :: t) (.int x :: ST) M h := r_iload_n mt_150 dX5_tonsAt_0 rfl
theorem e150_1 : Rn X d 150 1 LS ST M h = Rn X d 150 2 LS (.int (zN 0) :: ST) M h := r_iconst mt_150 dX5_tonsAt_1 c_ic0
theorem e150_2 : Rn X d 150 2 LS ST M h = Rn X d 150 4 LS (.int (zN 7) :: ST) M h := r_bipush mt_150 dX5_tonsAt_2 c_bi7
theorem e150_4 (hcs : Nat.ble (j_cs ST) 8 = true) : Rn X (d + 1) 150 4 LS (.int z :: .int y :: .int x :: ST) M h = q_k X (Rn X d 104 0 [some (.int x), some (.int y), some (.int z)] [] M (j_h0 h)) h (d + 1) 150 7 LS ST := s_callS (Or.inl rfl) mt_150 dX5_tonsAt_4 cl_5_33 mt_104 rfl (Nat.le_add_left _ _) rfl rfl rfl rfl hcs
theorem e150_7 : Rn X d 150 7 LS (.int x :: ST) M h = q_eq X x (zN 0) d 150 23 10 LS ST M h := s_ifeq mt_150 dX5_tonsAt_7 rfl
theorem e150_10 : Rn X d 150 10 (some (.ref a) :: t) ST M h = Rn X d 150 11 (some (.ref a) :: t) (.ref a :: ST) M h := r_aload_n mt_150 dX5_tonsAt_10 rfl
theorem e150_11 : Rn X d 150 11 (some (.ref a) :: t) ST M h = Rn X d 150 12 (some (.ref a) :: t) (.ref a :: ST) M h := r_aload_n mt_150 dX5_tonsAt_11 rfl
theorem e150_12 : Rn X d 150 12 (l0 :: some (.int x) :: t) ST M h = Rn X d 150 13 (l0 :: some (.int x) :: t) (.int x :: ST) M h := r_iload_n mt_150 dX5_tonsAt_12 rfl
theorem e150_13 : Rn X d 150 13 (l0 :: l1 :: some (.int x) :: t) ST M h = Rn X d 150 14 (l0 :: l1 :: some (.int x) :: t) (.int x :: ST) M h := r_iload_n mt_150 dX5_tonsAt_13 rfl
theorem e150_14 (hcs : Nat.ble (j_cs ST) 8 = true) : Rn X (d + 1) 150 14 LS (.int y :: .int x :: .ref a :: ST) M h = j_rc (M a) 5 (q_k X (Rn X d 149 0 [some (.ref a), some (.int x), some (.int y)] [] M (j_h0 h)) h (d + 1) 150 17 LS ST) := s_callV mt_150 dX5_tonsAt_14 cl_5_143 mt_149 rfl rfl (Nat.le_add_left _ _) rfl rfl rfl rfl hcs
theorem e150_17 (hcs : Nat.ble (j_cs ST) 8 = true) : Rn X (d + 1) 150 17 LS (.int x :: .ref a :: ST) M h = j_rc (M a) 5 (q_k X (Rn X d 103 0 [some (.ref a), some (.int x)] [] M (j_h0 h)) h (d + 1) 150 20 LS ST) := s_callV mt_150 dX5_tonsAt_17 cl_5_54 mt_103 rfl rfl (Nat.le_add_left _ _) rfl rfl rfl rfl hcs
theorem e150_20 : Rn X d 150 20 LS ST M h = Rn X d 150 28 LS ST M h := r_goto mt_150 dX5_tonsAt_20 rfl
theorem e150_23 : Rn X d 150 23 (some (.ref a) :: t) ST M h = Rn X d 150 24 (some (.ref a) :: t) (.ref a :: ST) M h := r_aload_n mt_150 dX5_tonsAt_23 rfl
theorem e150_24 : Rn X d 150 24 LS ST M h = Rn X d 150 25 LS (.int (zN 1) :: ST) M h := r_iconst mt_150 dX5_tonsAt_24 c_ic1
theorem e150_25 (hcs : Nat.ble (j_cs ST) 8 = true) : Rn X (d + 1) 150 25 LS (.int x :: .ref a :: ST) M h = j_rc (M a) 5 (q_k X (Rn X d 102 0 [some (.ref a), some (.int x)] [] M (j_h0 h)) h (d + 1) 150 28 LS ST) := s_callV mt_150 dX5_tonsAt_25 cl_5_44 mt_102 rfl rfl (Nat.le_add_left _ _) rfl rfl rfl rfl hcs
theorem e150_28 : Rn X d 150 28 LS ([.int x]) M h = some (.inl (some (.int x)), M, h) := r_iret mt_150 dX5_tonsAt_28 rfl
theorem e151_0 : Rn X d 151 0 (some (.ref a) :: t) ST M h = Rn X d 151 1 (some (.ref a) :: t) (.ref a :: ST) M h := r_aload_n mt_151 dX5_agrees_0 rfl
theorem e151_1 : Rn X d 151 1 LS ST M h = Rn X d 151 2 LS (.int (zN 1) :: ST) M h := r_iconst mt_151 dX5_agrees_1 c_ic1
theorem e151_2 : Rn X d 151 2 LS ST M h = Rn X d 151 3 LS (.int (zN 0) :: ST) M h := r_iconst mt_151 dX5_agrees_2 c_ic0
theorem e151_3 (hcs : Nat.ble (j_cs ST) 8 = true) : Rn X (d + 1) 151 3 LS (.int y :: .int x :: .ref a :: ST) M h = j_rc (M a) 5 (q_k X (Rn X d 106 0 [some (.ref a), some (.int x), some (.int y)] [] M (j_h0 h)) h (d + 1) 151 6 LS ST) := s_callV mt_151 dX5_agrees_3 cl_5_57 mt_106 rfl rfl (Nat.le_add_left _ _) rfl rfl rfl rfl hcs
theorem e151_6 : Rn X d 151 6 (some (.ref a) :: t) ST M h = Rn X d 151 7 (some (.ref a) :: t) (.ref a :: ST) M h := r_aload_n mt_151 dX5_agrees_6 rfl
theorem e151_7 : Rn X d 151 7 LS ST M h = Rn X d 151 8 LS (.int (zN 0) :: ST) M h := r_iconst mt_151 dX5_agrees_7 c_ic0
theorem e151_8 : Rn X d 151 8 LS ST M h = Rn X d 151 9 LS (.int (zN 0) :: ST) M h := r_iconst mt_151 dX5_agrees_8 c_ic0
theorem e151_9 (hcs : Nat.ble (j_cs ST) 8 = true) : Rn X (d + 1) 151 9 LS (.int y :: .int x :: .ref a :: ST) M h = j_rc (M a) 5 (q_k X (Rn X d 106 0 [some (.ref a), some (.int x), some (.int y)] [] M (j_h0 h)) h (d + 1) 151 12 LS ST) := s_callV mt_151 dX5_agrees_9 cl_5_57 mt_106 rfl rfl (Nat.le_add_left _ _) rfl rfl rfl rfl hcs
theorem e151_12 : Rn X d 151 12 LS (.int y :: .int x :: ST) M h = q_le X y x d 151 19 15 LS ST M h := s_icge mt_151 dX5_agrees_12 rfl
theorem e151_15 : Rn X d 151 15 LS ST M h = Rn X d 151 16 LS (.int (zN 1) :: ST) M h := r_iconst mt_151 dX5_agrees_15 c_ic1
theorem e151_16 : Rn X d 151 16 LS ST M h = Rn X d 151 20 LS ST M h := r_goto mt_151 dX5_agrees_16 rfl
theorem e151_19 : Rn X d 151 19 LS ST M h = Rn X d 151 20 LS (.int (zN 0) :: ST) M h := r_iconst mt_151 dX5_agrees_19 c_ic0
theorem e151_20 (ho : j_one l0 = true) : Rn X d 151 20 (l0 :: l1 :: t) (.int x :: ST) M h = Rn X d 151 21 (l0 :: some (.int x) :: t) ST M h := r_istore_n mt_151 dX5_agrees_20 (by show 1 < _; simp only [List.length_cons]; omega) ho rfl
theorem e151_21 : Rn X d 151 21 (some (.ref a) :: t) ST M h = Rn X d 151 22 (some (.ref a) :: t) (.ref a :: ST) M h := r_aload_n mt_151 dX5_agrees_21 rfl
theorem e151_22 : Rn X d 151 22 (l0 :: some (.int x) :: t) ST M h = Rn X d 151 23 (l0 :: some (.int x) :: t) (.int x :: ST) M h := r_iload_n mt_151 dX5_agrees_22 rfl
theorem e151_23 : Rn X d 151 23 LS ST M h = Rn X d 151 24 LS (.int (zN 5) :: ST) M h := r_iconst mt_151 dX5_agrees_23 c_ic5
theorem e151_24 (hcs : Nat.ble (j_cs ST) 8 = true) : Rn X (d + 1) 151 24 LS (.int y :: .int x :: .ref a :: ST) M h = j_rc (M a) 5 (q_k X (Rn X d 147 0 [some (.ref a), some (.int x), some (.int y), none] [] M (j_h0 h)) h (d + 1) 151 27 LS ST) := s_callV mt_151 dX5_agrees_24 cl_5_135 mt_147 rfl rfl (Nat.le_add_left _ _) rfl rfl rfl rfl hcs
theorem e151_27 : Rn X d 151 27 (some (.ref a) :: t) ST M h = Rn X d 151 28 (some (.ref a) :: t) (.ref a :: ST) M h := r_aload_n mt_151 dX5_agrees_27 rfl
theorem e151_28 : Rn X d 151 28 (some (.ref a) :: t) ST M h = Rn X d 151 29 (some (.ref a) :: t) (.ref a :: ST) M h := r_aload_n mt_151 dX5_agrees_28 rfl
theorem e151_29 : Rn X d 151 29 (l0 :: some (.int x) :: t) ST M h = Rn X d 151 30 (l0 :: some (.int x) :: t) (.int x :: ST) M h := r_iload_n mt_151 dX5_agrees_29 rfl
theorem e151_30 : Rn X d 151 30 LS ST M h = Rn X d 151 31 LS (.int (zN 0) :: ST) M h := r_iconst mt_151 dX5_agrees_30 c_ic0
theorem e151_31 (hcs : Nat.ble (j_cs ST) 8 = true) : Rn X (d + 1) 151 31 LS (.int y :: .int x :: .ref a :: ST) M h = j_rc (M a) 5 (q_k X (Rn X d 106 0 [some (.ref a), some (.int x), some (.int y)] [] M (j_h0 h)) h (d + 1) 151 34 LS ST) := s_callV mt_151 dX5_agrees_31 cl_5_57 mt_106 rfl rfl (Nat.le_add_left _ _) rfl rfl rfl rfl hcs
theorem e151_34 : Rn X d 151 34 (some (.ref a) :: t) ST M h = Rn X d 151 35 (some (.ref a) :: t) (.ref a :: ST) M h := r_aload_n mt_151 dX5_agrees_34 rfl
theorem e151_35 : Rn X d 151 35 LS ST M h = Rn X d 151 36 LS (.int (zN 1) :: ST) M h := r_iconst mt_151 dX5_agrees_35 c_ic1
theorem e151_36 : Rn X d 151 36 (l0 :: some (.int x) :: t) ST M h = Rn X d 151 37 (l0 :: some (.int x) :: t) (.int x :: ST) M h := r_iload_n mt_151 dX5_agrees_36 rfl
theorem e151_37 : Rn X d 151 37 LS (.int y :: .int x :: ST) M h = Rn X d 151 38 LS (.int (x - y) :: ST) M h := r_isub mt_151 dX5_agrees_37
theorem e151_38 : Rn X d 151 38 LS ST M h = Rn X d 151 39 LS (.int (zN 0) :: ST) M h := r_iconst mt_151 dX5_agrees_38 c_ic0
theorem e151_39 (hcs : Nat.ble (j_cs ST) 8 = true) : Rn X (d + 1) 151 39 LS (.int y :: .int x :: .ref a :: ST) M h = j_rc (M a) 5 (q_k X (Rn X d 106 0 [some (.ref a), some (.int x), some (.int y)] [] M (j_h0 h)) h (d + 1) 151 42 LS ST) := s_callV mt_151 dX5_agrees_39 cl_5_57 mt_106 rfl rfl (Nat.le_add_left _ _) rfl rfl rfl rfl hcs
theorem e151_42 (hcs : Nat.ble (j_cs ST) 8 = true) : Rn X (d + 1) 151 42 LS (.int y :: .int x :: .ref a :: ST) M h = j_rc (M a) 5 (q_k X (Rn X d 146 0 [some (.ref a), some (.int x), some (.int y), none, none] [] M (j_h0 h)) h (d + 1) 151 45 LS ST) := s_callV mt_151 dX5_agrees_42 cl_5_139 mt_146 rfl rfl (Nat.le_add_left _ _) rfl rfl rfl rfl hcs
theorem e151_45 : Rn X d 151 45 LS (.int x :: ST) M h = q_eq X x (zN 0) d 151 48 50 LS ST M h := s_ifne mt_151 dX5_agrees_45 rfl
theorem e151_48 : Rn X d 151 48 LS ST M h = Rn X d 151 49 LS (.int (zM 0) :: ST) M h := r_iconst mt_151 dX5_agrees_48 c_icm1
theorem e151_49 : Rn X d 151 49 LS ([.int x]) M h = some (.inl (some (.int x)), M, h) := r_iret mt_151 dX5_agrees_49 rfl
theorem e151_50 : Rn X d 151 50 LS ST M h = Rn X d 151 51 LS (.int (zN 0) :: ST) M h := r_iconst mt_151 dX5_agrees_50 c_ic0
theorem e151_51 (ho : j_one l1 = true) : Rn X d 151 51 (l0 :: l1 :: l2 :: t) (.int x :: ST) M h = Rn X d 151 52 (l0 :: l1 :: some (.int x) :: t) ST M h := r_istore_n mt_151 dX5_agrees_51 (by show 2 < _; simp only [List.length_cons]; omega) ho rfl
theorem e151_52 : Rn X d 151 52 (l0 :: l1 :: some (.int x) :: t) ST M h = Rn X d 151 53 (l0 :: l1 :: some (.int x) :: t) (.int x :: ST) M h := r_iload_n mt_151 dX5_agrees_52 rfl
theorem e151_53 : Rn X d 151 53 LS ST M h = Rn X d 151 55 LS (.int (zN 8) :: ST) M h := r_bipush mt_151 dX5_agrees_53 c_bi8
theorem e151_55 : Rn X d 151 55 LS (.int y :: .int x :: ST) M h = q_le X y x d 151 85 58 LS ST M h := s_icge mt_151 dX5_agrees_55 rfl
theorem e151_58 : Rn X d 151 58 (some (.ref a) :: t) ST M h = Rn X d 151 59 (some (.ref a) :: t) (.ref a :: ST) M h := r_aload_n mt_151 dX5_agrees_58 rfl
theorem e151_59 : Rn X d 151 59 LS (.ref a :: ST) M h = q_g X (M a) 5 6 d 151 62 LS ST M h := s_get mt_151 dX5_agrees_59 f_5_22
theorem e151_62 : Rn X d 151 62 (l0 :: l1 :: some (.int x) :: t) ST M h = Rn X d 151 63 (l0 :: l1 :: some (.int x) :: t) (.int x :: ST) M h := r_iload_n mt_151 dX5_agrees_62 rfl
theorem e151_63 : Rn X d 151 63 LS (.int x :: .ref a :: ST) M h = q_ld X (M a) a x d 151 64 LS ST M h := s_iald mt_151 dX5_agrees_63
theorem e151_64 : Rn X d 151 64 (some (.ref a) :: t) ST M h = Rn X d 151 65 (some (.ref a) :: t) (.ref a :: ST) M h := r_aload_n mt_151 dX5_agrees_64 rfl
theorem e151_65 : Rn X d 151 65 LS ST M h = Rn X d 151 66 LS (.int (zN 1) :: ST) M h := r_iconst mt_151 dX5_agrees_65 c_ic1
theorem e151_66 : Rn X d 151 66 (l0 :: some (.int x) :: t) ST M h = Rn X d 151 67 (l0 :: some (.int x) :: t) (.int x :: ST) M h := r_iload_n mt_151 dX5_agrees_66 rfl
theorem e151_67 : Rn X d 151 67 LS (.int y :: .int x :: ST) M h = Rn X d 151 68 LS (.int (x - y) :: ST) M h := r_isub mt_151 dX5_agrees_67
theorem e151_68 : Rn X d 151 68 LS ST M h = Rn X d 151 69 LS (.int (zN 5) :: ST) M h := r_iconst mt_151 dX5_agrees_68 c_ic5
theorem e151_69 : Rn X d 151 69 (l0 :: l1 :: some (.int x) :: t) ST M h = Rn X d 151 70 (l0 :: l1 :: some (.int x) :: t) (.int x :: ST) M h := r_iload_n mt_151 dX5_agrees_69 rfl
theorem e151_70 : Rn X d 151 70 LS (.int y :: .int x :: ST) M h = Rn X d 151 71 LS (.int (x + y) :: ST) M h := r_iadd mt_151 dX5_agrees_70
theorem e151_71 (hcs : Nat.ble (j_cs ST) 8 = true) : Rn X (d + 1) 151 71 LS (.int y :: .int x :: .ref a :: ST) M h = j_rc (M a) 5 (q_k X (Rn X d 106 0 [some (.ref a), some (.int x), some (.int y)] [] M (j_h0 h)) h (d + 1) 151 74 LS ST) := s_callV mt_151 dX5_agrees_71 cl_5_57 mt_106 rfl rfl (Nat.le_add_left _ _) rfl rfl rfl rfl hcs
theorem e151_74 : Rn X d 151 74 LS (.int y :: .int x :: ST) M h = q_eq X x y d 151 79 77 LS ST M h := s_iceq mt_151 dX5_agrees_74 rfl
theorem e151_77 : Rn X d 151 77 LS ST M h = Rn X d 151 78 LS (.int (zN 0) :: ST) M h := r_iconst mt_151 dX5_agrees_77 c_ic0
theorem e151_78 : Rn X d 151 78 LS ([.int x]) M h = some (.inl (some (.int x)), M, h) := r_iret mt_151 dX5_agrees_78 rfl
theorem e151_79 (ho : j_one l1 = true) : Rn X d 151 79 (l0 :: l1 :: some (.int x) :: t) ST M h = Rn X d 151 82 (l0 :: l1 :: some (.int (x + (zN 1))) :: t) ST M h := r_iinc mt_151 dX5_agrees_79 rfl (by simp only [List.length_cons]; omega) ho c_ic1 rfl
theorem e151_82 : Rn X d 151 82 LS ST M h = Rn X d 151 52 LS ST M h := r_goto mt_151 dX5_agrees_82 rfl
theorem e151_85 : Rn X d 151 85 LS ST M h = Rn X d 151 86 LS (.int (zN 1) :: ST) M h := r_iconst mt_151 dX5_agrees_85 c_ic1
theorem e151_86 : Rn X d 151 86 LS ([.int x]) M h = some (.inl (some (.int x)), M, h) := r_iret mt_151 dX5_agrees_86 rfl
theorem e152_0 : Rn X d 152 0 (some (.ref a) :: t) ST M h = Rn X d 152 1 (some (.ref a) :: t) (.ref a :: ST) M h := r_aload_n mt_152 dX5_agree_0 rfl
theorem e152_1 : Rn X d 152 1 (some (.ref a) :: t) ST M h = Rn X d 152 2 (some (.ref a) :: t) (.ref a :: ST) M h := r_aload_n mt_152 dX5_agree_1 rfl
theorem e152_2 (hcs : Nat.ble (j_cs ST) 8 = true) : Rn X (d + 1) 152 2 LS (.ref a :: ST) M h = j_rc (M a) 5 (q_k X (Rn X d 151 0 [some (.ref a), none, none] [] M (j_h0 h)) h (d + 1) 152 5 LS ST) := s_callV mt_152 dX5_agree_2 cl_5_146 mt_151 rfl rfl (Nat.le_add_left _ _) rfl rfl rfl rfl hcs
theorem e152_5 (hcs : Nat.ble (j_cs ST) 8 = true) : Rn X (d + 1) 152 5 LS (.int x :: .ref a :: ST) M h = j_rc (M a) 5 (q_k X (Rn X d 103 0 [some (.ref a), some (.int x)] [] M (j_h0 h)) h (d + 1) 152 8 LS ST) := s_callV mt_152 dX5_agree_5 cl_5_54 mt_103 rfl rfl (Nat.le_add_left _ _) rfl rfl rfl rfl hcs
theorem e152_8 : Rn X d 152 8 LS ([.int x]) M h = some (.inl (some (.int x)), M, h) := r_iret mt_152 dX5_agree_8 rfl
theorem e153_0 : Rn X d 153 0 (l0 :: some (.int x) :: t) ST M h = Rn X d 153 1 (l0 :: some (.int x) :: t) (.int x :: ST) M h := r_iload_n mt_153 dX5_roomBy_0 rfl
theorem e153_1 (hcs : Nat.ble (j_cs ST) 8 = true) : Rn X (d + 1) 153 1 LS (.int x :: ST) M h = q_k X (Rn X d 110 0 [some (.int x)] [] M (j_h0 h)) h (d + 1) 153 4 LS ST := s_callS (Or.inl rfl) mt_153 dX5_roomBy_1 cl_5_75 mt_110 rfl (Nat.le_add_left _ _) rfl rfl rfl rfl hcs
theorem e153_4 : Rn X d 153 4 LS (.int x :: ST) M h = q_eq X x (zN 0) d 153 7 13 LS ST M h := s_ifne mt_153 dX5_roomBy_4 rfl
theorem e153_7 : Rn X d 153 7 (some (.ref a) :: t) ST M h = Rn X d 153 8 (some (.ref a) :: t) (.ref a :: ST) M h := r_aload_n mt_153 dX5_roomBy_7 rfl
theorem e153_8 : Rn X d 153 8 LS ST M h = Rn X d 153 9 LS (.int (zN 1) :: ST) M h := r_iconst mt_153 dX5_roomBy_8 c_ic1
theorem e153_9 (hcs : Nat.ble (j_cs ST) 8 = true) : Rn X (d + 1) 153 9 LS (.int x :: .ref a :: ST) M h = j_rc (M a) 5 (q_k X (Rn X d 102 0 [some (.ref a), some (.int x)] [] M (j_h0 h)) h (d + 1) 153 12 LS ST) := s_callV mt_153 dX5_roomBy_9 cl_5_44 mt_102 rfl rfl (Nat.le_add_left _ _) rfl rfl rfl rfl hcs
theorem e153_12 : Rn X d 153 12 LS ([.int x]) M h = some (.inl (some (.int x)), M, h) := r_iret mt_153 dX5_roomBy_12 rfl
theorem e153_13 : Rn X d 153 13 (some (.ref a) :: t) ST M h = Rn X d 153 14 (some (.ref a) :: t) (.ref a :: ST) M h := r_aload_n mt_153 dX5_roomBy_13 rfl
theorem e153_14 : Rn X d 153 14 LS ST M h = Rn X d 153 15 LS (.int (zN 1) :: ST) M h := r_iconst mt_153 dX5_roomBy_14 c_ic1
theorem e153_15 : Rn X d 153 15 (l0 :: some (.int x) :: t) ST M h = Rn X d 153 16 (l0 :: some (.int x) :: t) (.int x :: ST) M h := r_iload_n mt_153 dX5_roomBy_15 rfl
theorem e153_16 : Rn X d 153 16 LS (.int y :: .int x :: ST) M h = Rn X d 153 17 LS (.int (x - y) :: ST) M h := r_isub mt_153 dX5_roomBy_16
theorem e153_17 : Rn X d 153 17 LS ST M h = Rn X d 153 18 LS (.int (zN 4) :: ST) M h := r_iconst mt_153 dX5_roomBy_17 c_ic4
theorem e153_18 (hcs : Nat.ble (j_cs ST) 8 = true) : Rn X (d + 1) 153 18 LS (.int y :: .int x :: .ref a :: ST) M h = j_rc (M a) 5 (q_k X (Rn X d 106 0 [some (.ref a), some (.int x), some (.int y)] [] M (j_h0 h)) h (d + 1) 153 21 LS ST) := s_callV mt_153 dX5_roomBy_18 cl_5_57 mt_106 rfl rfl (Nat.le_add_left _ _) rfl rfl rfl rfl hcs
theorem e153_21 (ho : j_one l1 = true) : Rn X d 153 21 (l0 :: l1 :: l2 :: t) (.int x :: ST) M h = Rn X d 153 22 (l0 :: l1 :: some (.int x) :: t) ST M h := r_istore_n mt_153 dX5_roomBy_21 (by show 2 < _; simp only [List.length_cons]; omega) ho rfl
theorem e153_22 : Rn X d 153 22 (some (.ref a) :: t) ST M h = Rn X d 153 23 (some (.ref a) :: t) (.ref a :: ST) M h := r_aload_n mt_153 dX5_roomBy_22 rfl
theorem e153_23 : Rn X d 153 23 (l0 :: some (.int x) :: t) ST M h = Rn X d 153 24 (l0 :: some (.int x) :: t) (.int x :: ST) M h := r_iload_n mt_153 dX5_roomBy_23 rfl
theorem e153_24 : Rn X d 153 24 LS ST M h = Rn X d 153 25 LS (.int (zN 0) :: ST) M h := r_iconst mt_153 dX5_roomBy_24 c_ic0
theorem e153_25 (hcs : Nat.ble (j_cs ST) 8 = true) : Rn X (d + 1) 153 25 LS (.int y :: .int x :: .ref a :: ST) M h = j_rc (M a) 5 (q_k X (Rn X d 106 0 [some (.ref a), some (.int x), some (.int y)] [] M (j_h0 h)) h (d + 1) 153 28 LS ST) := s_callV mt_153 dX5_roomBy_25 cl_5_57 mt_106 rfl rfl (Nat.le_add_left _ _) rfl rfl rfl rfl hcs
theorem e153_28 : Rn X d 153 28 (l0 :: l1 :: some (.int x) :: t) ST M h = Rn X d 153 29 (l0 :: l1 :: some (.int x) :: t) (.int x :: ST) M h := r_iload_n mt_153 dX5_roomBy_28 rfl
theorem e153_29 : Rn X d 153 29 LS (.int y :: .int x :: ST) M h = q_le X y x d 153 41 32 LS ST M h := s_icge mt_153 dX5_roomBy_29 rfl
theorem e153_32 : Rn X d 153 32 (some (.ref a) :: t) ST M h = Rn X d 153 33 (some (.ref a) :: t) (.ref a :: ST) M h := r_aload_n mt_153 dX5_roomBy_32 rfl
theorem e153_33 : Rn X d 153 33 (l0 :: some (.int x) :: t) ST M h = Rn X d 153 34 (l0 :: some (.int x) :: t) (.int x :: ST) M h := r_iload_n mt_153 dX5_roomBy_33 rfl
theorem e153_34 : Rn X d 153 34 LS ST M h = Rn X d 153 35 LS (.int (zN 0) :: ST) M h := r_iconst mt_153 dX5_roomBy_34 c_ic0
theorem e153_35 (hcs : Nat.ble (j_cs ST) 8 = true) : Rn X (d + 1) 153 35 LS (.int y :: .int x :: .ref a :: ST) M h = j_rc (M a) 5 (q_k X (Rn X d 106 0 [some (.ref a), some (.int x), some (.int y)] [] M (j_h0 h)) h (d + 1) 153 38 LS ST) := s_callV mt_153 dX5_roomBy_35 cl_5_57 mt_106 rfl rfl (Nat.le_add_left _ _) rfl rfl rfl rfl hcs
theorem e153_38 : Rn X d 153 38 LS ST M h = Rn X d 153 42 LS ST M h := r_goto mt_153 dX5_roomBy_38 rfl
theorem e153_41 : Rn X d 153 41 (l0 :: l1 :: some (.int x) :: t) ST M h = Rn X d 153 42 (l0 :: l1 :: some (.int x) :: t) (.int x :: ST) M h := r_iload_n mt_153 dX5_roomBy_41 rfl
theorem e153_42 (ho : j_one l2 = true) : Rn X d 153 42 (l0 :: l1 :: l2 :: l3 :: t) (.int x :: ST) M h = Rn X d 153 43 (l0 :: l1 :: l2 :: some (.int x) :: t) ST M h := r_istore_n mt_153 dX5_roomBy_42 (by show 3 < _; simp only [List.length_cons]; omega) ho rfl
theorem e153_43 : Rn X d 153 43 (some (.ref a) :: t) ST M h = Rn X d 153 44 (some (.ref a) :: t) (.ref a :: ST) M h := r_aload_n mt_153 dX5_roomBy_43 rfl
theorem e153_44 : Rn X d 153 44 (some (.ref a) :: t) ST M h = Rn X d 153 45 (some (.ref a) :: t) (.ref a :: ST) M h := r_aload_n mt_153 dX5_roomBy_44 rfl
theorem e153_45 : Rn X d 153 45 LS (.ref a :: ST) M h = q_g X (M a) 5 0 d 153 48 LS ST M h := s_get mt_153 dX5_roomBy_45 f_5_7
theorem e153_48 : Rn X d 153 48 LS ST M h = Rn X d 153 49 LS (.int (zN 0) :: ST) M h := r_iconst mt_153 dX5_roomBy_48 c_ic0
theorem e153_49 : Rn X d 153 49 LS (.int x :: .ref a :: ST) M h = q_ld X (M a) a x d 153 50 LS ST M h := s_iald mt_153 dX5_roomBy_49
theorem e153_50 : Rn X d 153 50 (some (.ref a) :: t) ST M h = Rn X d 153 51 (some (.ref a) :: t) (.ref a :: ST) M h := r_aload_n mt_153 dX5_roomBy_50 rfl
theorem e153_51 : Rn X d 153 51 LS (.ref a :: ST) M h = q_g X (M a) 5 0 d 153 54 LS ST M h := s_get mt_153 dX5_roomBy_51 f_5_7
theorem e153_54 : Rn X d 153 54 LS ST M h = Rn X d 153 55 LS (.int (zN 2) :: ST) M h := r_iconst mt_153 dX5_roomBy_54 c_ic2
theorem e153_55 : Rn X d 153 55 LS (.int x :: .ref a :: ST) M h = q_ld X (M a) a x d 153 56 LS ST M h := s_iald mt_153 dX5_roomBy_55
theorem e153_56 : Rn X d 153 56 (l0 :: l1 :: l2 :: some (.int x) :: t) ST M h = Rn X d 153 57 (l0 :: l1 :: l2 :: some (.int x) :: t) (.int x :: ST) M h := r_iload_n mt_153 dX5_roomBy_56 rfl
theorem e153_57 : Rn X d 153 57 LS (.int y :: .int x :: ST) M h = Rn X d 153 58 LS (.int (x - y) :: ST) M h := r_isub mt_153 dX5_roomBy_57
theorem e153_58 : Rn X d 153 58 LS (.int y :: .int x :: ST) M h = Rn X d 153 59 LS (.int (x - y) :: ST) M h := r_isub mt_153 dX5_roomBy_58
theorem e153_59 (hcs : Nat.ble (j_cs ST) 8 = true) : Rn X (d + 1) 153 59 LS (.int x :: .ref a :: ST) M h = j_rc (M a) 5 (q_k X (Rn X d 103 0 [some (.ref a), some (.int x)] [] M (j_h0 h)) h (d + 1) 153 62 LS ST) := s_callV mt_153 dX5_roomBy_59 cl_5_54 mt_103 rfl rfl (Nat.le_add_left _ _) rfl rfl rfl rfl hcs
theorem e153_62 : Rn X d 153 62 LS ([.int x]) M h = some (.inl (some (.int x)), M, h) := r_iret mt_153 dX5_roomBy_62 rfl
theorem e154_0 : Rn X d 154 0 (some (.ref a) :: t) ST M h = Rn X d 154 1 (some (.ref a) :: t) (.ref a :: ST) M h := r_aload_n mt_154 dX5_slower_0 rfl
theorem e154_1 : Rn X d 154 1 (some (.ref a) :: t) ST M h = Rn X d 154 2 (some (.ref a) :: t) (.ref a :: ST) M h := r_aload_n mt_154 dX5_slower_1 rfl
theorem e154_2 (hcs : Nat.ble (j_cs ST) 8 = true) : Rn X (d + 1) 154 2 LS (.ref a :: ST) M h = j_rc (M a) 5 (q_k X (Rn X d 148 0 [some (.ref a)] [] M (j_h0 h)) h (d + 1) 154 5 LS ST) := s_callV mt_154 dX5_slower_2 cl_5_132 mt_148 rfl rfl (Nat.le_add_left _ _) rfl rfl rfl rfl hcs
theorem e154_5 (hcs : Nat.ble (j_cs ST) 8 = true) : Rn X (d + 1) 154 5 LS (.int x :: .ref a :: ST) M h = j_rc (M a) 5 (q_k X (Rn X d 103 0 [some (.ref a), some (.int x)] [] M (j_h0 h)) h (d + 1) 154 8 LS ST) := s_callV mt_154 dX5_slower_5 cl_5_54 mt_103 rfl rfl (Nat.le_add_left _ _) rfl rfl rfl rfl hcs
theorem e154_8 : Rn X d 154 8 LS ([.int x]) M h = some (.inl (some (.int x)), M, h) := r_iret mt_154 dX5_slower_8 rfl
theorem e155_0 : Rn X d 155 0 (some (.ref a) :: t) ST M h = Rn X d 155 1 (some (.ref a) :: t) (.ref a :: ST) M h := r_aload_n mt_155 dX5_fullness_0 rfl
theorem e155_1 : Rn X d 155 1 LS ST M h = Rn X d 155 2 LS (.int (zN 0) :: ST) M h := r_iconst mt_155 dX5_fullness_1 c_ic0
theorem e155_2 : Rn X d 155 2 LS (.int x :: .ref a :: ST) M h = q_p X (M a) a 5 7 (.int x) d 155 5 LS ST M h := s_putN mt_155 dX5_fullness_2 f_5_29 rfl rfl rfl
theorem e155_5 : Rn X d 155 5 (some (.ref a) :: t) ST M h = Rn X d 155 6 (some (.ref a) :: t) (.ref a :: ST) M h := r_aload_n mt_155 dX5_fullness_5 rfl
theorem e155_6 (hcs : Nat.ble (j_cs ST) 8 = true) : Rn X (d + 1) 155 6 LS (.ref a :: ST) M h = j_rc (M a) 5 (q_k X (Rn X d 113 0 [some (.ref a)] [] M (j_h0 h)) h (d + 1) 155 9 LS ST) := s_callV mt_155 dX5_fullness_6 cl_5_67 mt_113 rfl rfl (Nat.le_add_left _ _) rfl rfl rfl rfl hcs
theorem e155_9 : Rn X d 155 9 LS (.int x :: ST) M h = Rn X d 155 10 LS (.double (FP.i2d x) :: ST) M h := r_i2d mt_155 dX5_fullness_9
theorem e155_10 : Rn X d 155 10 (some (.ref a) :: t) ST M h = Rn X d 155 11 (some (.ref a) :: t) (.ref a :: ST) M h := r_aload_n mt_155 dX5_fullness_10 rfl
theorem e155_11 : Rn X d 155 11 LS (.ref a :: ST) M h = q_g X (M a) 5 0 d 155 14 LS ST M h := s_get mt_155 dX5_fullness_11 f_5_7
theorem e155_14 : Rn X d 155 14 LS ST M h = Rn X d 155 15 LS (.int (zN 0) :: ST) M h := r_iconst mt_155 dX5_fullness_14 c_ic0
theorem e155_15 : Rn X d 155 15 LS (.int x :: .ref a :: ST) M h = q_ld X (M a) a x d 155 16 LS ST M h := s_iald mt_155 dX5_fullness_15
theorem e155_16 : Rn X d 155 16 LS (.int x :: ST) M h = Rn X d 155 17 LS (.double (FP.i2d x) :: ST) M h := r_i2d mt_155 dX5_fullness_16
theorem e155_17 (hn : FP.ddiv g f &&& 0x7fffffffffffffff ≤ 0x7ff0000000000000) : Rn X d 155 17 LS (.double f :: .double g :: ST) M h = Rn X d 155 18 LS (.double (FP.ddiv g f) :: ST) M h := r_ddiv mt_155 dX5_fullness_17 hn
theorem e155_18 : Rn X d 155 18 LS ([.double g]) M h = some (.inl (some (.double g)), M, h) := r_dret mt_155 dX5_fullness_18 rfl
theorem e156_0 : Rn X d 156 0 (l0 :: some (.int x) :: t) ST M h = Rn X d 156 1 (l0 :: some (.int x) :: t) (.int x :: ST) M h := r_iload_n mt_156 dX5_append_0 rfl
theorem e156_1 : Rn X d 156 1 LS ST M h = Rn X d 156 2 LS (.int (zN 0) :: ST) M h := r_iconst mt_156 dX5_append_1 c_ic0
theorem e156_2 : Rn X d 156 2 LS ST M h = Rn X d 156 4 LS (.int (zN 127) :: ST) M h := r_bipush mt_156 dX5_append_2 c_bi127
theorem e156_4 (hcs : Nat.ble (j_cs ST) 8 = true) : Rn X (d + 1) 156 4 LS (.int z :: .int y :: .int x :: ST) M h = q_k X (Rn X d 104 0 [some (.int x), some (.int y), some (.int z)] [] M (j_h0 h)) h (d + 1) 156 7 LS ST := s_callS (Or.inl rfl) mt_156 dX5_append_4 cl_5_33 mt_104 rfl (Nat.le_add_left _ _) rfl rfl rfl rfl hcs
theorem e156_7 : Rn X d 156 7 LS (.int x :: ST) M h = q_eq X x (zN 0) d 156 10 16 LS ST M h := s_ifne mt_156 dX5_append_7 rfl
theorem e156_10 : Rn X d 156 10 (some (.ref a) :: t) ST M h = Rn X d 156 11 (some (.ref a) :: t) (.ref a :: ST) M h := r_aload_n mt_156 dX5_append_10 rfl
theorem e156_11 : Rn X d 156 11 LS ST M h = Rn X d 156 12 LS (.int (zN 1) :: ST) M h := r_iconst mt_156 dX5_append_11 c_ic1
theorem e156_12 (hcs : Nat.ble (j_cs ST) 8 = true) : Rn X (d + 1) 156 12 LS (.int x :: .ref a :: ST) M h = j_rc (M a) 5 (q_k X (Rn X d 102 0 [some (.ref a), some (.int x)] [] M (j_h0 h)) h (d + 1) 156 15 LS ST) := s_callV mt_156 dX5_append_12 cl_5_44 mt_102 rfl rfl (Nat.le_add_left _ _) rfl rfl rfl rfl hcs
theorem e156_15 : Rn X d 156 15 LS ([.int x]) M h = some (.inl (some (.int x)), M, h) := r_iret mt_156 dX5_append_15 rfl
theorem e156_16 : Rn X d 156 16 (some (.ref a) :: t) ST M h = Rn X d 156 17 (some (.ref a) :: t) (.ref a :: ST) M h := r_aload_n mt_156 dX5_append_16 rfl
theorem e156_17 : Rn X d 156 17 LS (.ref a :: ST) M h = q_g X (M a) 5 5 d 156 20 LS ST M h := s_get mt_156 dX5_append_17 f_5_149
theorem e156_20 : Rn X d 156 20 LS ST M h = Rn X d 156 22 LS (.int (zN 100) :: ST) M h := r_bipush mt_156 dX5_append_20 c_bi100
theorem e156_22 : Rn X d 156 22 LS (.int y :: .int x :: ST) M h = q_eq X x y d 156 25 31 LS ST M h := s_icne mt_156 dX5_append_22 rfl
theorem e156_25 : Rn X d 156 25 (some (.ref a) :: t) ST M h = Rn X d 156 26 (some (.ref a) :: t) (.ref a :: ST) M h := r_aload_n mt_156 dX5_append_25 rfl
theorem e156_26 : Rn X d 156 26 LS ST M h = Rn X d 156 27 LS (.int (zN 2) :: ST) M h := r_iconst mt_156 dX5_append_26 c_ic2
theorem e156_27 (hcs : Nat.ble (j_cs ST) 8 = true) : Rn X (d + 1) 156 27 LS (.int x :: .ref a :: ST) M h = j_rc (M a) 5 (q_k X (Rn X d 102 0 [some (.ref a), some (.int x)] [] M (j_h0 h)) h (d + 1) 156 30 LS ST) := s_callV mt_156 dX5_append_27 cl_5_44 mt_102 rfl rfl (Nat.le_add_left _ _) rfl rfl rfl rfl hcs
theorem e156_30 : Rn X d 156 30 LS ([.int x]) M h = some (.inl (some (.int x)), M, h) := r_iret mt_156 dX5_append_30 rfl
theorem e156_31 : Rn X d 156 31 (some (.ref a) :: t) ST M h = Rn X d 156 32 (some (.ref a) :: t) (.ref a :: ST) M h := r_aload_n mt_156 dX5_append_31 rfl
theorem e156_32 : Rn X d 156 32 LS (.ref a :: ST) M h = q_g X (M a) 5 4 d 156 35 LS ST M h := s_get mt_156 dX5_append_32 f_5_19
theorem e156_35 : Rn X d 156 35 (some (.ref a) :: t) ST M h = Rn X d 156 36 (some (.ref a) :: t) (.ref a :: ST) M h := r_aload_n mt_156 dX5_append_35 rfl
theorem e156_36 : Rn X d 156 36 LS (.ref a :: ST) M h = q_g X (M a) 5 5 d 156 39 LS ST M h := s_get mt_156 dX5_append_36 f_5_149
theorem e156_39 : Rn X d 156 39 (l0 :: some (.int x) :: t) ST M h = Rn X d 156 40 (l0 :: some (.int x) :: t) (.int x :: ST) M h := r_iload_n mt_156 dX5_append_39 rfl
theorem e156_40 : Rn X d 156 40 LS (.int y :: .int x :: .ref a :: ST) M h = q_st X (M a) a x y d 156 41 LS ST M h := s_iast mt_156 dX5_append_40
theorem e156_41 : Rn X d 156 41 (some (.ref a) :: t) ST M h = Rn X d 156 42 (some (.ref a) :: t) (.ref a :: ST) M h := r_aload_n mt_156 dX5_append_41 rfl
theorem e156_42 : Rn X d 156 42 LS (.int x :: ST) M h = Rn X d 156 43 LS (.int x :: .int x :: ST) M h := r_dup mt_156 dX5_append_42 rfl
theorem e156_42r : Rn X d 156 42 LS (.ref a :: ST) M h = Rn X d 156 43 LS (.ref a :: .ref a :: ST) M h := r_dup mt_156 dX5_append_42 rfl
theorem e156_43 : Rn X d 156 43 LS (.ref a :: ST) M h = q_g X (M a) 5 5 d 156 46 LS ST M h := s_get mt_156 dX5_append_43 f_5_149
theorem e156_46 : Rn X d 156 46 LS ST M h = Rn X d 156 47 LS (.int (zN 1) :: ST) M h := r_iconst mt_156 dX5_append_46 c_ic1
theorem e156_47 : Rn X d 156 47 LS (.int y :: .int x :: ST) M h = Rn X d 156 48 LS (.int (x + y) :: ST) M h := r_iadd mt_156 dX5_append_47
theorem e156_48 : Rn X d 156 48 LS (.int x :: .ref a :: ST) M h = q_p X (M a) a 5 5 (.int x) d 156 51 LS ST M h := s_putN mt_156 dX5_append_48 f_5_149 rfl rfl rfl
theorem e156_51 : Rn X d 156 51 (some (.ref a) :: t) ST M h = Rn X d 156 52 (some (.ref a) :: t) (.ref a :: ST) M h := r_aload_n mt_156 dX5_append_51 rfl
theorem e156_52 : Rn X d 156 52 (some (.ref a) :: t) ST M h = Rn X d 156 53 (some (.ref a) :: t) (.ref a :: ST) M h := r_aload_n mt_156 dX5_append_52 rfl
theorem e156_53 : Rn X d 156 53 LS (.ref a :: ST) M h = q_g X (M a) 5 5 d 156 56 LS ST M h := s_get mt_156 dX5_append_53 f_5_149
theorem e156_56 (hcs : Nat.ble (j_cs ST) 8 = true) : Rn X (d + 1) 156 56 LS (.int x :: .ref a :: ST) M h = j_rc (M a) 5 (q_k X (Rn X d 103 0 [some (.ref a), some (.int x)] [] M (j_h0 h)) h (d + 1) 156 59 LS ST) := s_callV mt_156 dX5_append_56 cl_5_54 mt_103 rfl rfl (Nat.le_add_left _ _) rfl rfl rfl rfl hcs
theorem e156_59 : Rn X d 156 59 LS ([.int x]) M h = some (.inl (some (.int x)), M, h) := r_iret mt_156 dX5_append_59 rfl
theorem e157_0 : Rn X d 157 0 (some (.ref a) :: t) ST M h = Rn X d 157 1 (some (.ref a) :: t) (.ref a :: ST) M h := r_aload_n mt_157 dX5_clearText_0 rfl
theorem e157_1 : Rn X d 157 1 LS (.ref a :: ST) M h = q_g X (M a) 5 5 d 157 4 LS ST M h := s_get mt_157 dX5_clearText_1 f_5_149
theorem e157_4 (ho : j_one l0 = true) : Rn X d 157 4 (l0 :: l1 :: t) (.int x :: ST) M h = Rn X d 157 5 (l0 :: some (.int x) :: t) ST M h := r_istore_n mt_157 dX5_clearText_4 (by show 1 < _; simp only [List.length_cons]; omega) ho rfl
theorem e157_5 : Rn X d 157 5 (some (.ref a) :: t) ST M h = Rn X d 157 6 (some (.ref a) :: t) (.ref a :: ST) M h := r_aload_n mt_157 dX5_clearText_5 rfl
theorem e157_6 : Rn X d 157 6 LS ST M h = Rn X d 157 7 LS (.int (zN 0) :: ST) M h := r_iconst mt_157 dX5_clearText_6 c_ic0
theorem e157_7 : Rn X d 157 7 LS (.int x :: .ref a :: ST) M h = q_p X (M a) a 5 5 (.int x) d 157 10 LS ST M h := s_putN mt_157 dX5_clearText_7 f_5_149 rfl rfl rfl
theorem e157_10 : Rn X d 157 10 (some (.ref a) :: t) ST M h = Rn X d 157 11 (some (.ref a) :: t) (.ref a :: ST) M h := r_aload_n mt_157 dX5_clearText_10 rfl
theorem e157_11 : Rn X d 157 11 (l0 :: some (.int x) :: t) ST M h = Rn X d 157 12 (l0 :: some (.int x) :: t) (.int x :: ST) M h := r_iload_n mt_157 dX5_clearText_11 rfl
theorem e157_12 (hcs : Nat.ble (j_cs ST) 8 = true) : Rn X (d + 1) 157 12 LS (.int x :: .ref a :: ST) M h = j_rc (M a) 5 (q_k X (Rn X d 103 0 [some (.ref a), some (.int x)] [] M (j_h0 h)) h (d + 1) 157 15 LS ST) := s_callV mt_157 dX5_clearText_12 cl_5_54 mt_103 rfl rfl (Nat.le_add_left _ _) rfl rfl rfl rfl hcs
theorem e157_15 : Rn X d 157 15 LS ([.int x]) M h = some (.inl (some (.int x)), M, h) := r_iret mt_157 dX5_clearText_15 rfl
end
