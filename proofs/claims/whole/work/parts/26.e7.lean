/-! one rule an instruction, printed by wip/whole/gen25.py -/
section
variable {X : jX} {d : Nat} {l0 l1 l2 l3 l4 l5 l6 l7 l8 l9 l10 l11 : Option Value} {LS t : jL} {ST : List Value} {M : jM} {h : jH} {x y z w u : Int32} {a b c e : Nat} {p q : Int64} {f g : UInt64}
theorem e174_0 : Rn X d 174 0 (l0 :: l1 :: l2 :: some (.ref a) :: t) ST M h = Rn X d 174 1 (l0 :: l1 :: l2 :: some (.ref a) :: t) (.ref a :: ST) M h := r_aload_n mt_174 dL_replay_0 rfl
theorem e174_1 : Rn X d 174 1 LS ST M h = Rn X d 174 2 LS (.int (zN 0) :: ST) M h := r_iconst mt_174 dL_replay_1 c_ic0
theorem e174_2 : Rn X d 174 2 (some (.ref a) :: t) ST M h = Rn X d 174 3 (some (.ref a) :: t) (.ref a :: ST) M h := r_aload_n mt_174 dL_replay_2 rfl
theorem e174_3 : Rn X d 174 3 (l0 :: some (.int x) :: t) ST M h = Rn X d 174 4 (l0 :: some (.int x) :: t) (.int x :: ST) M h := r_iload_n mt_174 dL_replay_3 rfl
theorem e174_4 : Rn X d 174 4 (l0 :: l1 :: some (.int x) :: t) ST M h = Rn X d 174 5 (l0 :: l1 :: some (.int x) :: t) (.int x :: ST) M h := r_iload_n mt_174 dL_replay_4 rfl
theorem c174_5_B (ho : j_one l3 = true) : j_cat (Rn X) mtI_174 d 174 5 (l0 :: l1 :: l2 :: l3 :: l4 :: t) "java/lang/IndexOutOfBoundsException" M h = Rn X d 174 15 (l0 :: l1 :: l2 :: l3 :: none :: t) [] M h := r_cat (hp := 13) (k := 4) (by decide +kernel) (by simp only [List.length_cons]; omega) ho (Or.inl ⟨dL_replay_13, rfl⟩) rfl
theorem c174_5_A (ho : j_one l3 = true) : j_cat (Rn X) mtI_174 d 174 5 (l0 :: l1 :: l2 :: l3 :: l4 :: t) "java/lang/IllegalArgumentException" M h = Rn X d 174 19 (l0 :: l1 :: l2 :: l3 :: none :: t) [] M h := r_cat (hp := 17) (k := 4) (by decide +kernel) (by simp only [List.length_cons]; omega) ho (Or.inl ⟨dL_replay_17, rfl⟩) rfl
theorem e174_5 (hcs : Nat.ble (j_cs ST) 8 = true) : Rn X (d + 1) 174 5 LS (.int y :: .int x :: .ref a :: ST) M h = j_rc (M a) 4 (q_kc X (Rn X d 66 0 [some (.ref a), some (.int x), some (.int y)] [] M (j_h0 h)) h mtI_174 (d + 1) 174 5 8 LS ST) := s_callC mt_174 dL_replay_5 cl_8_27 mt_66 rfl rfl (Nat.le_add_left _ _) rfl rfl rfl (by decide) hcs
theorem e174_8 : Rn X d 174 8 LS (.int x :: ST) M h = Rn X d 174 9 LS (.long x.toInt64 :: ST) M h := r_i2l mt_174 dL_replay_8
theorem e174_9 : Rn X d 174 9 LS (.long p :: .int x :: .ref a :: ST) M h = q_sJ X (M a) a x p d 174 10 LS ST M h := s_last mt_174 dL_replay_9
theorem e174_10 : Rn X d 174 10 LS ST M h = Rn X d 174 21 LS ST M h := r_goto mt_174 dL_replay_10 rfl
theorem e174_15 : Rn X d 174 15 LS ST M h = Rn X d 174 16 LS (.int (zN 1) :: ST) M h := r_iconst mt_174 dL_replay_15 c_ic1
theorem e174_16 : Rn X d 174 16 LS ([.int x]) M h = some (.inl (some (.int x)), M, h) := r_iret mt_174 dL_replay_16 rfl
theorem e174_19 : Rn X d 174 19 LS ST M h = Rn X d 174 20 LS (.int (zN 2) :: ST) M h := r_iconst mt_174 dL_replay_19 c_ic2
theorem e174_20 : Rn X d 174 20 LS ([.int x]) M h = some (.inl (some (.int x)), M, h) := r_iret mt_174 dL_replay_20 rfl
theorem e174_21 : Rn X d 174 21 LS ST M h = Rn X d 174 22 LS (.int (zN 0) :: ST) M h := r_iconst mt_174 dL_replay_21 c_ic0
theorem e174_22 : Rn X d 174 22 LS ([.int x]) M h = some (.inl (some (.int x)), M, h) := r_iret mt_174 dL_replay_22 rfl
theorem e175_0 : Rn X d 175 0 (l0 :: l1 :: some (.ref a) :: t) ST M h = Rn X d 175 1 (l0 :: l1 :: some (.ref a) :: t) (.ref a :: ST) M h := r_aload_n mt_175 dL_snapshot_0 rfl
theorem e175_1 : Rn X d 175 1 LS ST M h = Rn X d 175 2 LS (.int (zN 0) :: ST) M h := r_iconst mt_175 dL_snapshot_1 c_ic0
theorem e175_2 : Rn X d 175 2 (some (.ref a) :: t) ST M h = Rn X d 175 3 (some (.ref a) :: t) (.ref a :: ST) M h := r_aload_n mt_175 dL_snapshot_2 rfl
theorem e175_3 : Rn X d 175 3 (l0 :: some (.int x) :: t) ST M h = Rn X d 175 4 (l0 :: some (.int x) :: t) (.int x :: ST) M h := r_iload_n mt_175 dL_snapshot_3 rfl
theorem c175_4_B (ho : j_one l2 = true) : j_cat (Rn X) mtI_175 d 175 4 (l0 :: l1 :: l2 :: l3 :: t) "java/lang/IndexOutOfBoundsException" M h = Rn X d 175 13 (l0 :: l1 :: l2 :: none :: t) [] M h := r_cat (hp := 12) (k := 3) (by decide +kernel) (by simp only [List.length_cons]; omega) ho (Or.inr ⟨3, rfl, dL_snapshot_12, rfl⟩) rfl
theorem c175_4_S (ho : j_one l2 = true) : j_cat (Rn X) mtI_175 d 175 4 (l0 :: l1 :: l2 :: l3 :: t) "java/lang/IllegalStateException" M h = Rn X d 175 16 (l0 :: l1 :: l2 :: none :: t) [] M h := r_cat (hp := 15) (k := 3) (by decide +kernel) (by simp only [List.length_cons]; omega) ho (Or.inr ⟨3, rfl, dL_snapshot_15, rfl⟩) rfl
theorem e175_4 (hcs : Nat.ble (j_cs ST) 8 = true) : Rn X (d + 1) 175 4 LS (.int x :: .ref a :: ST) M h = j_rc (M a) 4 (q_kc X (Rn X d 67 0 [some (.ref a), some (.int x)] [] M (j_h0 h)) h mtI_175 (d + 1) 175 4 7 LS ST) := s_callC mt_175 dL_snapshot_4 cl_8_30 mt_67 rfl rfl (Nat.le_add_left _ _) rfl rfl rfl (by decide) hcs
theorem e175_7 : Rn X d 175 7 LS (.int x :: ST) M h = Rn X d 175 8 LS (.long x.toInt64 :: ST) M h := r_i2l mt_175 dL_snapshot_7
theorem e175_8 : Rn X d 175 8 LS (.long p :: .int x :: .ref a :: ST) M h = q_sJ X (M a) a x p d 175 9 LS ST M h := s_last mt_175 dL_snapshot_8
theorem e175_9 : Rn X d 175 9 LS ST M h = Rn X d 175 18 LS ST M h := r_goto mt_175 dL_snapshot_9 rfl
theorem e175_13 : Rn X d 175 13 LS ST M h = Rn X d 175 14 LS (.int (zN 1) :: ST) M h := r_iconst mt_175 dL_snapshot_13 c_ic1
theorem e175_14 : Rn X d 175 14 LS ([.int x]) M h = some (.inl (some (.int x)), M, h) := r_iret mt_175 dL_snapshot_14 rfl
theorem e175_16 : Rn X d 175 16 LS ST M h = Rn X d 175 17 LS (.int (zN 2) :: ST) M h := r_iconst mt_175 dL_snapshot_16 c_ic2
theorem e175_17 : Rn X d 175 17 LS ([.int x]) M h = some (.inl (some (.int x)), M, h) := r_iret mt_175 dL_snapshot_17 rfl
theorem e175_18 : Rn X d 175 18 LS ST M h = Rn X d 175 19 LS (.int (zN 0) :: ST) M h := r_iconst mt_175 dL_snapshot_18 c_ic0
theorem e175_19 : Rn X d 175 19 LS ([.int x]) M h = some (.inl (some (.int x)), M, h) := r_iret mt_175 dL_snapshot_19 rfl
theorem e176_0 : Rn X d 176 0 (l0 :: l1 :: some (.ref a) :: t) ST M h = Rn X d 176 1 (l0 :: l1 :: some (.ref a) :: t) (.ref a :: ST) M h := r_aload_n mt_176 dL_crash_0 rfl
theorem e176_1 : Rn X d 176 1 LS ST M h = Rn X d 176 2 LS (.int (zN 0) :: ST) M h := r_iconst mt_176 dL_crash_1 c_ic0
theorem e176_2 : Rn X d 176 2 (some (.ref a) :: t) ST M h = Rn X d 176 3 (some (.ref a) :: t) (.ref a :: ST) M h := r_aload_n mt_176 dL_crash_2 rfl
theorem e176_3 : Rn X d 176 3 (l0 :: some (.int x) :: t) ST M h = Rn X d 176 4 (l0 :: some (.int x) :: t) (.int x :: ST) M h := r_iload_n mt_176 dL_crash_3 rfl
theorem c176_4_B (ho : j_one l2 = true) : j_cat (Rn X) mtI_176 d 176 4 (l0 :: l1 :: l2 :: l3 :: t) "java/lang/IndexOutOfBoundsException" M h = Rn X d 176 13 (l0 :: l1 :: l2 :: none :: t) [] M h := r_cat (hp := 12) (k := 3) (by decide +kernel) (by simp only [List.length_cons]; omega) ho (Or.inr ⟨3, rfl, dL_crash_12, rfl⟩) rfl
theorem e176_4 (hcs : Nat.ble (j_cs ST) 8 = true) : Rn X (d + 1) 176 4 LS (.int x :: .ref a :: ST) M h = j_rc (M a) 4 (q_kc X (Rn X d 68 0 [some (.ref a), some (.int x)] [] M (j_h0 h)) h mtI_176 (d + 1) 176 4 7 LS ST) := s_callC mt_176 dL_crash_4 cl_8_33 mt_68 rfl rfl (Nat.le_add_left _ _) rfl rfl rfl (by decide) hcs
theorem e176_7 : Rn X d 176 7 LS (.int x :: ST) M h = Rn X d 176 8 LS (.long x.toInt64 :: ST) M h := r_i2l mt_176 dL_crash_7
theorem e176_8 : Rn X d 176 8 LS (.long p :: .int x :: .ref a :: ST) M h = q_sJ X (M a) a x p d 176 9 LS ST M h := s_last mt_176 dL_crash_8
theorem e176_9 : Rn X d 176 9 LS ST M h = Rn X d 176 15 LS ST M h := r_goto mt_176 dL_crash_9 rfl
theorem e176_13 : Rn X d 176 13 LS ST M h = Rn X d 176 14 LS (.int (zN 1) :: ST) M h := r_iconst mt_176 dL_crash_13 c_ic1
theorem e176_14 : Rn X d 176 14 LS ([.int x]) M h = some (.inl (some (.int x)), M, h) := r_iret mt_176 dL_crash_14 rfl
theorem e176_15 : Rn X d 176 15 LS ST M h = Rn X d 176 16 LS (.int (zN 0) :: ST) M h := r_iconst mt_176 dL_crash_15 c_ic0
theorem e176_16 : Rn X d 176 16 LS ([.int x]) M h = some (.inl (some (.int x)), M, h) := r_iret mt_176 dL_crash_16 rfl
theorem e177_0 : Rn X d 177 0 (l0 :: l1 :: l2 :: some (.ref a) :: t) ST M h = Rn X d 177 1 (l0 :: l1 :: l2 :: some (.ref a) :: t) (.ref a :: ST) M h := r_aload_n mt_177 dL_link_0 rfl
theorem e177_1 : Rn X d 177 1 LS ST M h = Rn X d 177 2 LS (.int (zN 0) :: ST) M h := r_iconst mt_177 dL_link_1 c_ic0
theorem e177_2 : Rn X d 177 2 (some (.ref a) :: t) ST M h = Rn X d 177 3 (some (.ref a) :: t) (.ref a :: ST) M h := r_aload_n mt_177 dL_link_2 rfl
theorem e177_3 : Rn X d 177 3 (l0 :: some (.int x) :: t) ST M h = Rn X d 177 4 (l0 :: some (.int x) :: t) (.int x :: ST) M h := r_iload_n mt_177 dL_link_3 rfl
theorem e177_4 : Rn X d 177 4 (l0 :: l1 :: some (.int x) :: t) ST M h = Rn X d 177 5 (l0 :: l1 :: some (.int x) :: t) (.int x :: ST) M h := r_iload_n mt_177 dL_link_4 rfl
theorem c177_5_B (ho : j_one l3 = true) : j_cat (Rn X) mtI_177 d 177 5 (l0 :: l1 :: l2 :: l3 :: l4 :: t) "java/lang/IndexOutOfBoundsException" M h = Rn X d 177 15 (l0 :: l1 :: l2 :: l3 :: none :: t) [] M h := r_cat (hp := 13) (k := 4) (by decide +kernel) (by simp only [List.length_cons]; omega) ho (Or.inl ⟨dL_link_13, rfl⟩) rfl
theorem c177_5_S (ho : j_one l3 = true) : j_cat (Rn X) mtI_177 d 177 5 (l0 :: l1 :: l2 :: l3 :: l4 :: t) "java/lang/IllegalStateException" M h = Rn X d 177 19 (l0 :: l1 :: l2 :: l3 :: none :: t) [] M h := r_cat (hp := 17) (k := 4) (by decide +kernel) (by simp only [List.length_cons]; omega) ho (Or.inl ⟨dL_link_17, rfl⟩) rfl
theorem e177_5 (hcs : Nat.ble (j_cs ST) 8 = true) : Rn X (d + 1) 177 5 LS (.int y :: .int x :: .ref a :: ST) M h = j_rc (M a) 4 (q_kc X (Rn X d 69 0 [some (.ref a), some (.int x), some (.int y)] [] M (j_h0 h)) h mtI_177 (d + 1) 177 5 8 LS ST) := s_callC mt_177 dL_link_5 cl_8_36 mt_69 rfl rfl (Nat.le_add_left _ _) rfl rfl rfl (by decide) hcs
theorem e177_8 : Rn X d 177 8 LS (.int x :: ST) M h = Rn X d 177 9 LS (.long x.toInt64 :: ST) M h := r_i2l mt_177 dL_link_8
theorem e177_9 : Rn X d 177 9 LS (.long p :: .int x :: .ref a :: ST) M h = q_sJ X (M a) a x p d 177 10 LS ST M h := s_last mt_177 dL_link_9
theorem e177_10 : Rn X d 177 10 LS ST M h = Rn X d 177 21 LS ST M h := r_goto mt_177 dL_link_10 rfl
theorem e177_15 : Rn X d 177 15 LS ST M h = Rn X d 177 16 LS (.int (zN 1) :: ST) M h := r_iconst mt_177 dL_link_15 c_ic1
theorem e177_16 : Rn X d 177 16 LS ([.int x]) M h = some (.inl (some (.int x)), M, h) := r_iret mt_177 dL_link_16 rfl
theorem e177_19 : Rn X d 177 19 LS ST M h = Rn X d 177 20 LS (.int (zN 2) :: ST) M h := r_iconst mt_177 dL_link_19 c_ic2
theorem e177_20 : Rn X d 177 20 LS ([.int x]) M h = some (.inl (some (.int x)), M, h) := r_iret mt_177 dL_link_20 rfl
theorem e177_21 : Rn X d 177 21 LS ST M h = Rn X d 177 22 LS (.int (zN 0) :: ST) M h := r_iconst mt_177 dL_link_21 c_ic0
theorem e177_22 : Rn X d 177 22 LS ([.int x]) M h = some (.inl (some (.int x)), M, h) := r_iret mt_177 dL_link_22 rfl
theorem e178_0 : Rn X d 178 0 (l0 :: l1 :: l2 :: some (.ref a) :: t) ST M h = Rn X d 178 1 (l0 :: l1 :: l2 :: some (.ref a) :: t) (.ref a :: ST) M h := r_aload_n mt_178 dL_order_0 rfl
theorem e178_1 : Rn X d 178 1 LS ST M h = Rn X d 178 2 LS (.int (zN 0) :: ST) M h := r_iconst mt_178 dL_order_1 c_ic0
theorem e178_2 : Rn X d 178 2 (some (.ref a) :: t) ST M h = Rn X d 178 3 (some (.ref a) :: t) (.ref a :: ST) M h := r_aload_n mt_178 dL_order_2 rfl
theorem e178_3 : Rn X d 178 3 (l0 :: some (.int x) :: t) ST M h = Rn X d 178 4 (l0 :: some (.int x) :: t) (.int x :: ST) M h := r_iload_n mt_178 dL_order_3 rfl
theorem e178_4 : Rn X d 178 4 (l0 :: l1 :: some (.int x) :: t) ST M h = Rn X d 178 5 (l0 :: l1 :: some (.int x) :: t) (.int x :: ST) M h := r_iload_n mt_178 dL_order_4 rfl
theorem c178_5_B (ho : j_one l3 = true) : j_cat (Rn X) mtI_178 d 178 5 (l0 :: l1 :: l2 :: l3 :: l4 :: t) "java/lang/IndexOutOfBoundsException" M h = Rn X d 178 15 (l0 :: l1 :: l2 :: l3 :: none :: t) [] M h := r_cat (hp := 13) (k := 4) (by decide +kernel) (by simp only [List.length_cons]; omega) ho (Or.inl ⟨dL_order_13, rfl⟩) rfl
theorem c178_5_A (ho : j_one l3 = true) : j_cat (Rn X) mtI_178 d 178 5 (l0 :: l1 :: l2 :: l3 :: l4 :: t) "java/lang/IllegalArgumentException" M h = Rn X d 178 19 (l0 :: l1 :: l2 :: l3 :: none :: t) [] M h := r_cat (hp := 17) (k := 4) (by decide +kernel) (by simp only [List.length_cons]; omega) ho (Or.inl ⟨dL_order_17, rfl⟩) rfl
theorem e178_5 (hcs : Nat.ble (j_cs ST) 8 = true) : Rn X (d + 1) 178 5 LS (.int y :: .int x :: .ref a :: ST) M h = j_rc (M a) 4 (q_kc X (Rn X d 70 0 [some (.ref a), some (.int x), some (.int y)] [] M (j_h0 h)) h mtI_178 (d + 1) 178 5 8 LS ST) := s_callC mt_178 dL_order_5 cl_8_40 mt_70 rfl rfl (Nat.le_add_left _ _) rfl rfl rfl (by decide) hcs
theorem e178_8 : Rn X d 178 8 LS (.int x :: ST) M h = Rn X d 178 9 LS (.long x.toInt64 :: ST) M h := r_i2l mt_178 dL_order_8
theorem e178_9 : Rn X d 178 9 LS (.long p :: .int x :: .ref a :: ST) M h = q_sJ X (M a) a x p d 178 10 LS ST M h := s_last mt_178 dL_order_9
theorem e178_10 : Rn X d 178 10 LS ST M h = Rn X d 178 21 LS ST M h := r_goto mt_178 dL_order_10 rfl
theorem e178_15 : Rn X d 178 15 LS ST M h = Rn X d 178 16 LS (.int (zN 1) :: ST) M h := r_iconst mt_178 dL_order_15 c_ic1
theorem e178_16 : Rn X d 178 16 LS ([.int x]) M h = some (.inl (some (.int x)), M, h) := r_iret mt_178 dL_order_16 rfl
theorem e178_19 : Rn X d 178 19 LS ST M h = Rn X d 178 20 LS (.int (zN 2) :: ST) M h := r_iconst mt_178 dL_order_19 c_ic2
theorem e178_20 : Rn X d 178 20 LS ([.int x]) M h = some (.inl (some (.int x)), M, h) := r_iret mt_178 dL_order_20 rfl
theorem e178_21 : Rn X d 178 21 LS ST M h = Rn X d 178 22 LS (.int (zN 0) :: ST) M h := r_iconst mt_178 dL_order_21 c_ic0
theorem e178_22 : Rn X d 178 22 LS ([.int x]) M h = some (.inl (some (.int x)), M, h) := r_iret mt_178 dL_order_22 rfl
theorem e179_0 : Rn X d 179 0 (l0 :: l1 :: l2 :: some (.ref a) :: t) ST M h = Rn X d 179 1 (l0 :: l1 :: l2 :: some (.ref a) :: t) (.ref a :: ST) M h := r_aload_n mt_179 dL_ship_0 rfl
theorem e179_1 : Rn X d 179 1 LS ST M h = Rn X d 179 2 LS (.int (zN 0) :: ST) M h := r_iconst mt_179 dL_ship_1 c_ic0
theorem e179_2 : Rn X d 179 2 (some (.ref a) :: t) ST M h = Rn X d 179 3 (some (.ref a) :: t) (.ref a :: ST) M h := r_aload_n mt_179 dL_ship_2 rfl
theorem e179_3 : Rn X d 179 3 (l0 :: some (.int x) :: t) ST M h = Rn X d 179 4 (l0 :: some (.int x) :: t) (.int x :: ST) M h := r_iload_n mt_179 dL_ship_3 rfl
theorem e179_4 : Rn X d 179 4 (l0 :: l1 :: some (.int x) :: t) ST M h = Rn X d 179 5 (l0 :: l1 :: some (.int x) :: t) (.int x :: ST) M h := r_iload_n mt_179 dL_ship_4 rfl
theorem c179_5_B (ho : j_one l3 = true) : j_cat (Rn X) mtI_179 d 179 5 (l0 :: l1 :: l2 :: l3 :: l4 :: t) "java/lang/IndexOutOfBoundsException" M h = Rn X d 179 15 (l0 :: l1 :: l2 :: l3 :: none :: t) [] M h := r_cat (hp := 13) (k := 4) (by decide +kernel) (by simp only [List.length_cons]; omega) ho (Or.inl ⟨dL_ship_13, rfl⟩) rfl
theorem c179_5_A (ho : j_one l3 = true) : j_cat (Rn X) mtI_179 d 179 5 (l0 :: l1 :: l2 :: l3 :: l4 :: t) "java/lang/IllegalArgumentException" M h = Rn X d 179 19 (l0 :: l1 :: l2 :: l3 :: none :: t) [] M h := r_cat (hp := 17) (k := 4) (by decide +kernel) (by simp only [List.length_cons]; omega) ho (Or.inl ⟨dL_ship_17, rfl⟩) rfl
theorem e179_5 (hcs : Nat.ble (j_cs ST) 8 = true) : Rn X (d + 1) 179 5 LS (.int y :: .int x :: .ref a :: ST) M h = j_rc (M a) 4 (q_kc X (Rn X d 71 0 [some (.ref a), some (.int x), some (.int y), none] [] M (j_h0 h)) h mtI_179 (d + 1) 179 5 8 LS ST) := s_callC mt_179 dL_ship_5 cl_8_43 mt_71 rfl rfl (Nat.le_add_left _ _) rfl rfl rfl (by decide) hcs
theorem e179_8 : Rn X d 179 8 LS (.int x :: ST) M h = Rn X d 179 9 LS (.long x.toInt64 :: ST) M h := r_i2l mt_179 dL_ship_8
theorem e179_9 : Rn X d 179 9 LS (.long p :: .int x :: .ref a :: ST) M h = q_sJ X (M a) a x p d 179 10 LS ST M h := s_last mt_179 dL_ship_9
theorem e179_10 : Rn X d 179 10 LS ST M h = Rn X d 179 21 LS ST M h := r_goto mt_179 dL_ship_10 rfl
theorem e179_15 : Rn X d 179 15 LS ST M h = Rn X d 179 16 LS (.int (zN 1) :: ST) M h := r_iconst mt_179 dL_ship_15 c_ic1
theorem e179_16 : Rn X d 179 16 LS ([.int x]) M h = some (.inl (some (.int x)), M, h) := r_iret mt_179 dL_ship_16 rfl
theorem e179_19 : Rn X d 179 19 LS ST M h = Rn X d 179 20 LS (.int (zN 2) :: ST) M h := r_iconst mt_179 dL_ship_19 c_ic2
theorem e179_20 : Rn X d 179 20 LS ([.int x]) M h = some (.inl (some (.int x)), M, h) := r_iret mt_179 dL_ship_20 rfl
theorem e179_21 : Rn X d 179 21 LS ST M h = Rn X d 179 22 LS (.int (zN 0) :: ST) M h := r_iconst mt_179 dL_ship_21 c_ic0
theorem e179_22 : Rn X d 179 22 LS ([.int x]) M h = some (.inl (some (.int x)), M, h) := r_iret mt_179 dL_ship_22 rfl
theorem e180_0 : Rn X d 180 0 (l0 :: l1 :: l2 :: some (.ref a) :: t) ST M h = Rn X d 180 1 (l0 :: l1 :: l2 :: some (.ref a) :: t) (.ref a :: ST) M h := r_aload_n mt_180 dL_hold_0 rfl
theorem e180_1 : Rn X d 180 1 LS ST M h = Rn X d 180 2 LS (.int (zN 0) :: ST) M h := r_iconst mt_180 dL_hold_1 c_ic0
theorem e180_2 : Rn X d 180 2 (some (.ref a) :: t) ST M h = Rn X d 180 3 (some (.ref a) :: t) (.ref a :: ST) M h := r_aload_n mt_180 dL_hold_2 rfl
theorem e180_3 : Rn X d 180 3 (l0 :: some (.int x) :: t) ST M h = Rn X d 180 4 (l0 :: some (.int x) :: t) (.int x :: ST) M h := r_iload_n mt_180 dL_hold_3 rfl
theorem e180_4 : Rn X d 180 4 (l0 :: l1 :: some (.int x) :: t) ST M h = Rn X d 180 5 (l0 :: l1 :: some (.int x) :: t) (.int x :: ST) M h := r_iload_n mt_180 dL_hold_4 rfl
theorem c180_5_B (ho : j_one l3 = true) : j_cat (Rn X) mtI_180 d 180 5 (l0 :: l1 :: l2 :: l3 :: l4 :: t) "java/lang/IndexOutOfBoundsException" M h = Rn X d 180 15 (l0 :: l1 :: l2 :: l3 :: none :: t) [] M h := r_cat (hp := 13) (k := 4) (by decide +kernel) (by simp only [List.length_cons]; omega) ho (Or.inl ⟨dL_hold_13, rfl⟩) rfl
theorem e180_5 (hcs : Nat.ble (j_cs ST) 8 = true) : Rn X (d + 1) 180 5 LS (.int y :: .int x :: .ref a :: ST) M h = j_rc (M a) 4 (q_kc X (Rn X d 72 0 [some (.ref a), some (.int x), some (.int y)] [] M (j_h0 h)) h mtI_180 (d + 1) 180 5 8 LS ST) := s_callC mt_180 dL_hold_5 cl_8_46 mt_72 rfl rfl (Nat.le_add_left _ _) rfl rfl rfl (by decide) hcs
theorem e180_8 : Rn X d 180 8 LS (.int x :: ST) M h = Rn X d 180 9 LS (.long x.toInt64 :: ST) M h := r_i2l mt_180 dL_hold_8
theorem e180_9 : Rn X d 180 9 LS (.long p :: .int x :: .ref a :: ST) M h = q_sJ X (M a) a x p d 180 10 LS ST M h := s_last mt_180 dL_hold_9
theorem e180_10 : Rn X d 180 10 LS ST M h = Rn X d 180 17 LS ST M h := r_goto mt_180 dL_hold_10 rfl
theorem e180_15 : Rn X d 180 15 LS ST M h = Rn X d 180 16 LS (.int (zN 1) :: ST) M h := r_iconst mt_180 dL_hold_15 c_ic1
theorem e180_16 : Rn X d 180 16 LS ([.int x]) M h = some (.inl (some (.int x)), M, h) := r_iret mt_180 dL_hold_16 rfl
theorem e180_17 : Rn X d 180 17 LS ST M h = Rn X d 180 18 LS (.int (zN 0) :: ST) M h := r_iconst mt_180 dL_hold_17 c_ic0
theorem e180_18 : Rn X d 180 18 LS ([.int x]) M h = some (.inl (some (.int x)), M, h) := r_iret mt_180 dL_hold_18 rfl
theorem e181_0 : Rn X d 181 0 (l0 :: l1 :: some (.ref a) :: t) ST M h = Rn X d 181 1 (l0 :: l1 :: some (.ref a) :: t) (.ref a :: ST) M h := r_aload_n mt_181 dL_value_0 rfl
theorem e181_1 : Rn X d 181 1 LS ST M h = Rn X d 181 2 LS (.int (zN 0) :: ST) M h := r_iconst mt_181 dL_value_1 c_ic0
theorem e181_2 : Rn X d 181 2 (some (.ref a) :: t) ST M h = Rn X d 181 3 (some (.ref a) :: t) (.ref a :: ST) M h := r_aload_n mt_181 dL_value_2 rfl
theorem e181_3 : Rn X d 181 3 (l0 :: some (.int x) :: t) ST M h = Rn X d 181 4 (l0 :: some (.int x) :: t) (.int x :: ST) M h := r_iload_n mt_181 dL_value_3 rfl
theorem c181_4_A (ho : j_one l2 = true) : j_cat (Rn X) mtI_181 d 181 4 (l0 :: l1 :: l2 :: l3 :: t) "java/lang/IllegalArgumentException" M h = Rn X d 181 13 (l0 :: l1 :: l2 :: none :: t) [] M h := r_cat (hp := 12) (k := 3) (by decide +kernel) (by simp only [List.length_cons]; omega) ho (Or.inr ⟨3, rfl, dL_value_12, rfl⟩) rfl
theorem e181_4 (hcs : Nat.ble (j_cs ST) 8 = true) : Rn X (d + 1) 181 4 LS (.int x :: .ref a :: ST) M h = j_rc (M a) 4 (q_kc X (Rn X d 73 0 [some (.ref a), some (.int x)] [] M (j_h0 h)) h mtI_181 (d + 1) 181 4 7 LS ST) := s_callC mt_181 dL_value_4 cl_8_49 mt_73 rfl rfl (Nat.le_add_left _ _) rfl rfl rfl (by decide) hcs
theorem e181_7 : Rn X d 181 7 LS (.int x :: ST) M h = Rn X d 181 8 LS (.long x.toInt64 :: ST) M h := r_i2l mt_181 dL_value_7
theorem e181_8 : Rn X d 181 8 LS (.long p :: .int x :: .ref a :: ST) M h = q_sJ X (M a) a x p d 181 9 LS ST M h := s_last mt_181 dL_value_8
theorem e181_9 : Rn X d 181 9 LS ST M h = Rn X d 181 15 LS ST M h := r_goto mt_181 dL_value_9 rfl
theorem e181_13 : Rn X d 181 13 LS ST M h = Rn X d 181 14 LS (.int (zN 1) :: ST) M h := r_iconst mt_181 dL_value_13 c_ic1
theorem e181_14 : Rn X d 181 14 LS ([.int x]) M h = some (.inl (some (.int x)), M, h) := r_iret mt_181 dL_value_14 rfl
theorem e181_15 : Rn X d 181 15 LS ST M h = Rn X d 181 16 LS (.int (zN 0) :: ST) M h := r_iconst mt_181 dL_value_15 c_ic0
theorem e181_16 : Rn X d 181 16 LS ([.int x]) M h = some (.inl (some (.int x)), M, h) := r_iret mt_181 dL_value_16 rfl
theorem e182_0 : Rn X d 182 0 (l0 :: l1 :: some (.ref a) :: t) ST M h = Rn X d 182 1 (l0 :: l1 :: some (.ref a) :: t) (.ref a :: ST) M h := r_aload_n mt_182 dL_ahead_0 rfl
theorem e182_1 : Rn X d 182 1 LS ST M h = Rn X d 182 2 LS (.int (zN 0) :: ST) M h := r_iconst mt_182 dL_ahead_1 c_ic0
theorem e182_2 : Rn X d 182 2 (some (.ref a) :: t) ST M h = Rn X d 182 3 (some (.ref a) :: t) (.ref a :: ST) M h := r_aload_n mt_182 dL_ahead_2 rfl
theorem e182_3 : Rn X d 182 3 (l0 :: some (.int x) :: t) ST M h = Rn X d 182 4 (l0 :: some (.int x) :: t) (.int x :: ST) M h := r_iload_n mt_182 dL_ahead_3 rfl
theorem c182_4_B (ho : j_one l2 = true) : j_cat (Rn X) mtI_182 d 182 4 (l0 :: l1 :: l2 :: l3 :: t) "java/lang/IndexOutOfBoundsException" M h = Rn X d 182 13 (l0 :: l1 :: l2 :: none :: t) [] M h := r_cat (hp := 12) (k := 3) (by decide +kernel) (by simp only [List.length_cons]; omega) ho (Or.inr ⟨3, rfl, dL_ahead_12, rfl⟩) rfl
theorem e182_4 (hcs : Nat.ble (j_cs ST) 8 = true) : Rn X (d + 1) 182 4 LS (.int x :: .ref a :: ST) M h = j_rc (M a) 4 (q_kc X (Rn X d 74 0 [some (.ref a), some (.int x), none] [] M (j_h0 h)) h mtI_182 (d + 1) 182 4 7 LS ST) := s_callC mt_182 dL_ahead_4 cl_8_52 mt_74 rfl rfl (Nat.le_add_left _ _) rfl rfl rfl (by decide) hcs
theorem e182_7 : Rn X d 182 7 LS (.int x :: ST) M h = Rn X d 182 8 LS (.long x.toInt64 :: ST) M h := r_i2l mt_182 dL_ahead_7
theorem e182_8 : Rn X d 182 8 LS (.long p :: .int x :: .ref a :: ST) M h = q_sJ X (M a) a x p d 182 9 LS ST M h := s_last mt_182 dL_ahead_8
theorem e182_9 : Rn X d 182 9 LS ST M h = Rn X d 182 15 LS ST M h := r_goto mt_182 dL_ahead_9 rfl
theorem e182_13 : Rn X d 182 13 LS ST M h = Rn X d 182 14 LS (.int (zN 1) :: ST) M h := r_iconst mt_182 dL_ahead_13 c_ic1
theorem e182_14 : Rn X d 182 14 LS ([.int x]) M h = some (.inl (some (.int x)), M, h) := r_iret mt_182 dL_ahead_14 rfl
theorem e182_15 : Rn X d 182 15 LS ST M h = Rn X d 182 16 LS (.int (zN 0) :: ST) M h := r_iconst mt_182 dL_ahead_15 c_ic0
theorem e182_16 : Rn X d 182 16 LS ([.int x]) M h = some (.inl (some (.int x)), M, h) := r_iret mt_182 dL_ahead_16 rfl
theorem e183_0 : Rn X d 183 0 (l0 :: l1 :: some (.ref a) :: t) ST M h = Rn X d 183 1 (l0 :: l1 :: some (.ref a) :: t) (.ref a :: ST) M h := r_aload_n mt_183 dL_stop_0 rfl
theorem e183_1 : Rn X d 183 1 LS ST M h = Rn X d 183 2 LS (.int (zN 0) :: ST) M h := r_iconst mt_183 dL_stop_1 c_ic0
theorem e183_2 : Rn X d 183 2 (some (.ref a) :: t) ST M h = Rn X d 183 3 (some (.ref a) :: t) (.ref a :: ST) M h := r_aload_n mt_183 dL_stop_2 rfl
theorem e183_3 : Rn X d 183 3 (l0 :: some (.int x) :: t) ST M h = Rn X d 183 4 (l0 :: some (.int x) :: t) (.int x :: ST) M h := r_iload_n mt_183 dL_stop_3 rfl
theorem c183_4_B (ho : j_one l2 = true) : j_cat (Rn X) mtI_183 d 183 4 (l0 :: l1 :: l2 :: l3 :: t) "java/lang/IndexOutOfBoundsException" M h = Rn X d 183 13 (l0 :: l1 :: l2 :: none :: t) [] M h := r_cat (hp := 12) (k := 3) (by decide +kernel) (by simp only [List.length_cons]; omega) ho (Or.inr ⟨3, rfl, dL_stop_12, rfl⟩) rfl
theorem e183_4 (hcs : Nat.ble (j_cs ST) 8 = true) : Rn X (d + 1) 183 4 LS (.int x :: .ref a :: ST) M h = j_rc (M a) 4 (q_kc X (Rn X d 75 0 [some (.ref a), some (.int x)] [] M (j_h0 h)) h mtI_183 (d + 1) 183 4 7 LS ST) := s_callC mt_183 dL_stop_4 cl_8_55 mt_75 rfl rfl (Nat.le_add_left _ _) rfl rfl rfl (by decide) hcs
theorem e183_7 : Rn X d 183 7 LS (.int x :: ST) M h = Rn X d 183 8 LS (.long x.toInt64 :: ST) M h := r_i2l mt_183 dL_stop_7
theorem e183_8 : Rn X d 183 8 LS (.long p :: .int x :: .ref a :: ST) M h = q_sJ X (M a) a x p d 183 9 LS ST M h := s_last mt_183 dL_stop_8
theorem e183_9 : Rn X d 183 9 LS ST M h = Rn X d 183 15 LS ST M h := r_goto mt_183 dL_stop_9 rfl
theorem e183_13 : Rn X d 183 13 LS ST M h = Rn X d 183 14 LS (.int (zN 1) :: ST) M h := r_iconst mt_183 dL_stop_13 c_ic1
theorem e183_14 : Rn X d 183 14 LS ([.int x]) M h = some (.inl (some (.int x)), M, h) := r_iret mt_183 dL_stop_14 rfl
theorem e183_15 : Rn X d 183 15 LS ST M h = Rn X d 183 16 LS (.int (zN 0) :: ST) M h := r_iconst mt_183 dL_stop_15 c_ic0
theorem e183_16 : Rn X d 183 16 LS ([.int x]) M h = some (.inl (some (.int x)), M, h) := r_iret mt_183 dL_stop_16 rfl
theorem e184_0 : Rn X d 184 0 (l0 :: l1 :: l2 :: some (.ref a) :: t) ST M h = Rn X d 184 1 (l0 :: l1 :: l2 :: some (.ref a) :: t) (.ref a :: ST) M h := r_aload_n mt_184 dL_tonsAt_0 rfl
theorem e184_1 : Rn X d 184 1 LS ST M h = Rn X d 184 2 LS (.int (zN 0) :: ST) M h := r_iconst mt_184 dL_tonsAt_1 c_ic0
theorem e184_2 : Rn X d 184 2 (some (.ref a) :: t) ST M h = Rn X d 184 3 (some (.ref a) :: t) (.ref a :: ST) M h := r_aload_n mt_184 dL_tonsAt_2 rfl
theorem e184_3 : Rn X d 184 3 (l0 :: some (.int x) :: t) ST M h = Rn X d 184 4 (l0 :: some (.int x) :: t) (.int x :: ST) M h := r_iload_n mt_184 dL_tonsAt_3 rfl
theorem e184_4 : Rn X d 184 4 (l0 :: l1 :: some (.int x) :: t) ST M h = Rn X d 184 5 (l0 :: l1 :: some (.int x) :: t) (.int x :: ST) M h := r_iload_n mt_184 dL_tonsAt_4 rfl
theorem c184_5_B (ho : j_one l3 = true) : j_cat (Rn X) mtI_184 d 184 5 (l0 :: l1 :: l2 :: l3 :: l4 :: t) "java/lang/IndexOutOfBoundsException" M h = Rn X d 184 15 (l0 :: l1 :: l2 :: l3 :: none :: t) [] M h := r_cat (hp := 13) (k := 4) (by decide +kernel) (by simp only [List.length_cons]; omega) ho (Or.inl ⟨dL_tonsAt_13, rfl⟩) rfl
theorem e184_5 (hcs : Nat.ble (j_cs ST) 8 = true) : Rn X (d + 1) 184 5 LS (.int y :: .int x :: .ref a :: ST) M h = j_rc (M a) 4 (q_kc X (Rn X d 76 0 [some (.ref a), some (.int x), some (.int y), none, none] [] M (j_h0 h)) h mtI_184 (d + 1) 184 5 8 LS ST) := s_callC mt_184 dL_tonsAt_5 cl_8_58 mt_76 rfl rfl (Nat.le_add_left _ _) rfl rfl rfl (by decide) hcs
theorem e184_8 : Rn X d 184 8 LS (.int x :: ST) M h = Rn X d 184 9 LS (.long x.toInt64 :: ST) M h := r_i2l mt_184 dL_tonsAt_8
theorem e184_9 : Rn X d 184 9 LS (.long p :: .int x :: .ref a :: ST) M h = q_sJ X (M a) a x p d 184 10 LS ST M h := s_last mt_184 dL_tonsAt_9
theorem e184_10 : Rn X d 184 10 LS ST M h = Rn X d 184 17 LS ST M h := r_goto mt_184 dL_tonsAt_10 rfl
theorem e184_15 : Rn X d 184 15 LS ST M h = Rn X d 184 16 LS (.int (zN 1) :: ST) M h := r_iconst mt_184 dL_tonsAt_15 c_ic1
theorem e184_16 : Rn X d 184 16 LS ([.int x]) M h = some (.inl (some (.int x)), M, h) := r_iret mt_184 dL_tonsAt_16 rfl
theorem e184_17 : Rn X d 184 17 LS ST M h = Rn X d 184 18 LS (.int (zN 0) :: ST) M h := r_iconst mt_184 dL_tonsAt_17 c_ic0
theorem e184_18 : Rn X d 184 18 LS ([.int x]) M h = some (.inl (some (.int x)), M, h) := r_iret mt_184 dL_tonsAt_18 rfl
theorem e185_0 : Rn X d 185 0 (l0 :: l1 :: some (.ref a) :: t) ST M h = Rn X d 185 1 (l0 :: l1 :: some (.ref a) :: t) (.ref a :: ST) M h := r_aload_n mt_185 dL_roomBy_0 rfl
theorem e185_1 : Rn X d 185 1 LS ST M h = Rn X d 185 2 LS (.int (zN 0) :: ST) M h := r_iconst mt_185 dL_roomBy_1 c_ic0
theorem e185_2 : Rn X d 185 2 (some (.ref a) :: t) ST M h = Rn X d 185 3 (some (.ref a) :: t) (.ref a :: ST) M h := r_aload_n mt_185 dL_roomBy_2 rfl
theorem e185_3 : Rn X d 185 3 (l0 :: some (.int x) :: t) ST M h = Rn X d 185 4 (l0 :: some (.int x) :: t) (.int x :: ST) M h := r_iload_n mt_185 dL_roomBy_3 rfl
theorem c185_4_B (ho : j_one l2 = true) : j_cat (Rn X) mtI_185 d 185 4 (l0 :: l1 :: l2 :: l3 :: t) "java/lang/IndexOutOfBoundsException" M h = Rn X d 185 13 (l0 :: l1 :: l2 :: none :: t) [] M h := r_cat (hp := 12) (k := 3) (by decide +kernel) (by simp only [List.length_cons]; omega) ho (Or.inr ⟨3, rfl, dL_roomBy_12, rfl⟩) rfl
theorem e185_4 (hcs : Nat.ble (j_cs ST) 8 = true) : Rn X (d + 1) 185 4 LS (.int x :: .ref a :: ST) M h = j_rc (M a) 4 (q_kc X (Rn X d 78 0 [some (.ref a), some (.int x), none, none] [] M (j_h0 h)) h mtI_185 (d + 1) 185 4 7 LS ST) := s_callC mt_185 dL_roomBy_4 cl_8_61 mt_78 rfl rfl (Nat.le_add_left _ _) rfl rfl rfl (by decide) hcs
theorem e185_7 : Rn X d 185 7 LS (.int x :: ST) M h = Rn X d 185 8 LS (.long x.toInt64 :: ST) M h := r_i2l mt_185 dL_roomBy_7
theorem e185_8 : Rn X d 185 8 LS (.long p :: .int x :: .ref a :: ST) M h = q_sJ X (M a) a x p d 185 9 LS ST M h := s_last mt_185 dL_roomBy_8
theorem e185_9 : Rn X d 185 9 LS ST M h = Rn X d 185 15 LS ST M h := r_goto mt_185 dL_roomBy_9 rfl
theorem e185_13 : Rn X d 185 13 LS ST M h = Rn X d 185 14 LS (.int (zN 1) :: ST) M h := r_iconst mt_185 dL_roomBy_13 c_ic1
theorem e185_14 : Rn X d 185 14 LS ([.int x]) M h = some (.inl (some (.int x)), M, h) := r_iret mt_185 dL_roomBy_14 rfl
theorem e185_15 : Rn X d 185 15 LS ST M h = Rn X d 185 16 LS (.int (zN 0) :: ST) M h := r_iconst mt_185 dL_roomBy_15 c_ic0
theorem e185_16 : Rn X d 185 16 LS ([.int x]) M h = some (.inl (some (.int x)), M, h) := r_iret mt_185 dL_roomBy_16 rfl
theorem e186_0 : Rn X d 186 0 (l0 :: l1 :: some (.ref a) :: t) ST M h = Rn X d 186 1 (l0 :: l1 :: some (.ref a) :: t) (.ref a :: ST) M h := r_aload_n mt_186 dL_append_0 rfl
theorem e186_1 : Rn X d 186 1 LS ST M h = Rn X d 186 2 LS (.int (zN 0) :: ST) M h := r_iconst mt_186 dL_append_1 c_ic0
theorem e186_2 : Rn X d 186 2 (some (.ref a) :: t) ST M h = Rn X d 186 3 (some (.ref a) :: t) (.ref a :: ST) M h := r_aload_n mt_186 dL_append_2 rfl
theorem e186_3 : Rn X d 186 3 (l0 :: some (.int x) :: t) ST M h = Rn X d 186 4 (l0 :: some (.int x) :: t) (.int x :: ST) M h := r_iload_n mt_186 dL_append_3 rfl
theorem c186_4_A (ho : j_one l2 = true) : j_cat (Rn X) mtI_186 d 186 4 (l0 :: l1 :: l2 :: l3 :: t) "java/lang/IllegalArgumentException" M h = Rn X d 186 13 (l0 :: l1 :: l2 :: none :: t) [] M h := r_cat (hp := 12) (k := 3) (by decide +kernel) (by simp only [List.length_cons]; omega) ho (Or.inr ⟨3, rfl, dL_append_12, rfl⟩) rfl
theorem c186_4_S (ho : j_one l2 = true) : j_cat (Rn X) mtI_186 d 186 4 (l0 :: l1 :: l2 :: l3 :: t) "java/lang/IllegalStateException" M h = Rn X d 186 16 (l0 :: l1 :: l2 :: none :: t) [] M h := r_cat (hp := 15) (k := 3) (by decide +kernel) (by simp only [List.length_cons]; omega) ho (Or.inr ⟨3, rfl, dL_append_15, rfl⟩) rfl
theorem e186_4 (hcs : Nat.ble (j_cs ST) 8 = true) : Rn X (d + 1) 186 4 LS (.int x :: .ref a :: ST) M h = j_rc (M a) 4 (q_kc X (Rn X d 81 0 [some (.ref a), some (.int x)] [] M (j_h0 h)) h mtI_186 (d + 1) 186 4 7 LS ST) := s_callC mt_186 dL_append_4 cl_8_64 mt_81 rfl rfl (Nat.le_add_left _ _) rfl rfl rfl (by decide) hcs
theorem e186_7 : Rn X d 186 7 LS (.int x :: ST) M h = Rn X d 186 8 LS (.long x.toInt64 :: ST) M h := r_i2l mt_186 dL_append_7
theorem e186_8 : Rn X d 186 8 LS (.long p :: .int x :: .ref a :: ST) M h = q_sJ X (M a) a x p d 186 9 LS ST M h := s_last mt_186 dL_append_8
theorem e186_9 : Rn X d 186 9 LS ST M h = Rn X d 186 18 LS ST M h := r_goto mt_186 dL_append_9 rfl
theorem e186_13 : Rn X d 186 13 LS ST M h = Rn X d 186 14 LS (.int (zN 1) :: ST) M h := r_iconst mt_186 dL_append_13 c_ic1
theorem e186_14 : Rn X d 186 14 LS ([.int x]) M h = some (.inl (some (.int x)), M, h) := r_iret mt_186 dL_append_14 rfl
theorem e186_16 : Rn X d 186 16 LS ST M h = Rn X d 186 17 LS (.int (zN 2) :: ST) M h := r_iconst mt_186 dL_append_16 c_ic2
theorem e186_17 : Rn X d 186 17 LS ([.int x]) M h = some (.inl (some (.int x)), M, h) := r_iret mt_186 dL_append_17 rfl
theorem e186_18 : Rn X d 186 18 LS ST M h = Rn X d 186 19 LS (.int (zN 0) :: ST) M h := r_iconst mt_186 dL_append_18 c_ic0
theorem e186_19 : Rn X d 186 19 LS ([.int x]) M h = some (.inl (some (.int x)), M, h) := r_iret mt_186 dL_append_19 rfl
theorem e187_0 : Rn X d 187 0 (l0 :: some (.ref a) :: t) ST M h = Rn X d 187 1 (l0 :: some (.ref a) :: t) (.ref a :: ST) M h := r_aload_n mt_187 dL_undo_0 rfl
theorem e187_1 : Rn X d 187 1 LS ST M h = Rn X d 187 2 LS (.int (zN 0) :: ST) M h := r_iconst mt_187 dL_undo_1 c_ic0
theorem e187_2 : Rn X d 187 2 (some (.ref a) :: t) ST M h = Rn X d 187 3 (some (.ref a) :: t) (.ref a :: ST) M h := r_aload_n mt_187 dL_undo_2 rfl
theorem c187_3_S (ho : j_one l1 = true) : j_cat (Rn X) mtI_187 d 187 3 (l0 :: l1 :: l2 :: t) "java/lang/IllegalStateException" M h = Rn X d 187 12 (l0 :: l1 :: none :: t) [] M h := r_cat (hp := 11) (k := 2) (by decide +kernel) (by simp only [List.length_cons]; omega) ho (Or.inr ⟨2, rfl, dL_undo_11, rfl⟩) rfl
theorem e187_3 (hcs : Nat.ble (j_cs ST) 8 = true) : Rn X (d + 1) 187 3 LS (.ref a :: ST) M h = j_rc (M a) 4 (q_kc X (Rn X d 84 0 [some (.ref a)] [] M (j_h0 h)) h mtI_187 (d + 1) 187 3 6 LS ST) := s_callC mt_187 dL_undo_3 cl_8_67 mt_84 rfl rfl (Nat.le_add_left _ _) rfl rfl rfl (by decide) hcs
theorem e187_6 : Rn X d 187 6 LS (.int x :: ST) M h = Rn X d 187 7 LS (.long x.toInt64 :: ST) M h := r_i2l mt_187 dL_undo_6
theorem e187_7 : Rn X d 187 7 LS (.long p :: .int x :: .ref a :: ST) M h = q_sJ X (M a) a x p d 187 8 LS ST M h := s_last mt_187 dL_undo_7
theorem e187_8 : Rn X d 187 8 LS ST M h = Rn X d 187 14 LS ST M h := r_goto mt_187 dL_undo_8 rfl
theorem e187_12 : Rn X d 187 12 LS ST M h = Rn X d 187 13 LS (.int (zN 1) :: ST) M h := r_iconst mt_187 dL_undo_12 c_ic1
theorem e187_13 : Rn X d 187 13 LS ([.int x]) M h = some (.inl (some (.int x)), M, h) := r_iret mt_187 dL_undo_13 rfl
theorem e187_14 : Rn X d 187 14 LS ST M h = Rn X d 187 15 LS (.int (zN 0) :: ST) M h := r_iconst mt_187 dL_undo_14 c_ic0
theorem e187_15 : Rn X d 187 15 LS ([.int x]) M h = some (.inl (some (.int x)), M, h) := r_iret mt_187 dL_undo_15 rfl
theorem e188_0 {n c z : Nat} (h0 : n < 1000) : Rn X d 188 0 LS ST M (n, true, c, z) = Rn X d 188 3 LS (.ref n :: ST) (va_up M n (.inr (4, j_df 4))) (n + 1, true, c + 1, z + j_nf 4) := r_newo mt_188 dL_law_0 tl_8_8 ol_8_8 h0
theorem e188_3 : Rn X d 188 3 LS (.int x :: ST) M h = Rn X d 188 4 LS (.int x :: .int x :: ST) M h := r_dup mt_188 dL_law_3 rfl
theorem e188_3r : Rn X d 188 3 LS (.ref a :: ST) M h = Rn X d 188 4 LS (.ref a :: .ref a :: ST) M h := r_dup mt_188 dL_law_3 rfl
theorem e188_4 (hcs : Nat.ble (j_cs ST) 8 = true) : Rn X (d + 1) 188 4 LS (.ref a :: ST) M h = j_rc (M a) 4 (q_k X (Rn X d 61 0 [some (.ref a), none] [] M (j_h0 h)) h (d + 1) 188 7 LS ST) := s_callI (Or.inl rfl) mt_188 dL_law_4 cl_8_71 mt_61 rfl rfl (Nat.le_add_left _ _) rfl rfl rfl rfl hcs
theorem e188_7 (ho : j_one l0 = true) : Rn X d 188 7 (l0 :: l1 :: t) (.ref a :: ST) M h = Rn X d 188 8 (l0 :: some (.ref a) :: t) ST M h := r_astore_n mt_188 dL_law_7 (by show 1 < _; simp only [List.length_cons]; omega) ho rfl
theorem e188_8 {n c z : Nat} (h0 : n < 1000) : Rn X d 188 8 LS ST M (n, true, c, z) = Rn X d 188 11 LS (.ref n :: ST) (va_up M n (.inr (5, j_df 5))) (n + 1, true, c + 1, z + j_nf 5) := r_newo mt_188 dL_law_8 tl_8_72 ol_8_72 h0
theorem e188_11 : Rn X d 188 11 LS (.int x :: ST) M h = Rn X d 188 12 LS (.int x :: .int x :: ST) M h := r_dup mt_188 dL_law_11 rfl
theorem e188_11r : Rn X d 188 11 LS (.ref a :: ST) M h = Rn X d 188 12 LS (.ref a :: .ref a :: ST) M h := r_dup mt_188 dL_law_11 rfl
theorem e188_12 (hcs : Nat.ble (j_cs ST) 8 = true) : Rn X (d + 1) 188 12 LS (.ref a :: ST) M h = j_rc (M a) 5 (q_k X (Rn X d 100 0 [some (.ref a)] [] M (j_h0 h)) h (d + 1) 188 15 LS ST) := s_callI (Or.inl rfl) mt_188 dL_law_12 cl_8_74 mt_100 rfl rfl (Nat.le_add_left _ _) rfl rfl rfl rfl hcs
theorem e188_15 (ho : j_one l1 = true) : Rn X d 188 15 (l0 :: l1 :: l2 :: t) (.ref a :: ST) M h = Rn X d 188 16 (l0 :: l1 :: some (.ref a) :: t) ST M h := r_astore_n mt_188 dL_law_15 (by show 2 < _; simp only [List.length_cons]; omega) ho rfl
theorem e188_16 : Rn X d 188 16 LS ST M h = Rn X d 188 17 LS (.int (zN 1) :: ST) M h := r_iconst mt_188 dL_law_16 c_ic1
theorem e188_17 {n v c z : Nat} (h0 : n < 1000) (h1 : v ≤ 1000) : Rn X d 188 17 LS (.int (zN v) :: ST) M (n, true, c, z) = Rn X d 188 19 LS (.ref n :: ST) (va_up M n (.inl (3, v, .inr (.inl (fun _ => 0))))) (n + 1, true, c + 1, z + v) := s_newJ mt_188 dL_law_17 h0 h1
theorem e188_19 (ho : j_one l2 = true) : Rn X d 188 19 (l0 :: l1 :: l2 :: l3 :: t) (.ref a :: ST) M h = Rn X d 188 20 (l0 :: l1 :: l2 :: some (.ref a) :: t) ST M h := r_astore_n mt_188 dL_law_19 (by show 3 < _; simp only [List.length_cons]; omega) ho rfl
theorem e188_20 : Rn X d 188 20 LS ST M h = Rn X d 188 21 LS (.int (zN 0) :: ST) M h := r_iconst mt_188 dL_law_20 c_ic0
theorem e188_21 (ho : j_one l3 = true) : Rn X d 188 21 (l0 :: l1 :: l2 :: l3 :: l4 :: t) (.int x :: ST) M h = Rn X d 188 23 (l0 :: l1 :: l2 :: l3 :: some (.int x) :: t) ST M h := r_istore mt_188 dL_law_21 (by show 4 < _; simp only [List.length_cons]; omega) ho rfl
theorem e188_23 : Rn X d 188 23 (l0 :: l1 :: l2 :: l3 :: some (.int x) :: t) ST M h = Rn X d 188 25 (l0 :: l1 :: l2 :: l3 :: some (.int x) :: t) (.int x :: ST) M h := r_iload mt_188 dL_law_23 rfl
theorem e188_25 : Rn X d 188 25 (some (.ref a) :: t) ST M h = Rn X d 188 26 (some (.ref a) :: t) (.ref a :: ST) M h := r_aload_n mt_188 dL_law_25 rfl
theorem e188_26 : Rn X d 188 26 LS (.ref 1000000 :: ST) M h = Rn X d 188 27 LS (.int (zN X.1) :: ST) M h := s_alen mt_188 dL_law_26
theorem e188_27 : Rn X d 188 27 LS ST M h = Rn X d 188 28 LS (.int (zN 5) :: ST) M h := r_iconst mt_188 dL_law_27 c_ic5
theorem e188_28 : Rn X d 188 28 LS (.int y :: .int x :: ST) M h = Rn X d 188 29 LS (.int (x - y) :: ST) M h := r_isub mt_188 dL_law_28
theorem e188_29 : Rn X d 188 29 LS (.int y :: .int x :: ST) M h = q_lt X y x d 188 1350 32 LS ST M h := s_icgt mt_188 dL_law_29 rfl
theorem e188_32 : Rn X d 188 32 (some (.ref a) :: t) ST M h = Rn X d 188 33 (some (.ref a) :: t) (.ref a :: ST) M h := r_aload_n mt_188 dL_law_32 rfl
theorem e188_33 : Rn X d 188 33 (l0 :: l1 :: l2 :: l3 :: some (.int x) :: t) ST M h = Rn X d 188 35 (l0 :: l1 :: l2 :: l3 :: some (.int x) :: t) (.int x :: ST) M h := r_iload mt_188 dL_law_33 rfl
theorem e188_35 : Rn X d 188 35 LS (.int x :: .ref a :: ST) M h = q_ld X (M a) a x d 188 36 LS ST M h := s_iald mt_188 dL_law_35
theorem e188_36 : Rn X d 188 36 LS ST M h = Rn X d 188 38 LS (.int (zN 31) :: ST) M h := r_bipush mt_188 dL_law_36 c_bi31
theorem e188_38 : Rn X d 188 38 LS (.int y :: .int x :: ST) M h = Rn X d 188 39 LS (.int (x &&& y) :: ST) M h := r_iand mt_188 dL_law_38
theorem e188_39_0 : Rn X d 188 39 LS (.int (zN 0) :: ST) M h = Rn X d 188 148 LS ST M h := s_tab (off := 109) mt_188 dL_law_39 (by decide) (by decide) (by decide +kernel) rfl
theorem e188_39_1 : Rn X d 188 39 LS (.int (zN 1) :: ST) M h = Rn X d 188 204 LS ST M h := s_tab (off := 165) mt_188 dL_law_39 (by decide) (by decide) (by decide +kernel) rfl
theorem e188_39_2 : Rn X d 188 39 LS (.int (zN 2) :: ST) M h = Rn X d 188 296 LS ST M h := s_tab (off := 257) mt_188 dL_law_39 (by decide) (by decide) (by decide +kernel) rfl
theorem e188_39_3 : Rn X d 188 39 LS (.int (zN 3) :: ST) M h = Rn X d 188 364 LS ST M h := s_tab (off := 325) mt_188 dL_law_39 (by decide) (by decide) (by decide +kernel) rfl
theorem e188_39_4 : Rn X d 188 39 LS (.int (zN 4) :: ST) M h = Rn X d 188 377 LS ST M h := s_tab (off := 338) mt_188 dL_law_39 (by decide) (by decide) (by decide +kernel) rfl
theorem e188_39_5 : Rn X d 188 39 LS (.int (zN 5) :: ST) M h = Rn X d 188 445 LS ST M h := s_tab (off := 406) mt_188 dL_law_39 (by decide) (by decide) (by decide +kernel) rfl
theorem e188_39_6 : Rn X d 188 39 LS (.int (zN 6) :: ST) M h = Rn X d 188 501 LS ST M h := s_tab (off := 462) mt_188 dL_law_39 (by decide) (by decide) (by decide +kernel) rfl
theorem e188_39_7 : Rn X d 188 39 LS (.int (zN 7) :: ST) M h = Rn X d 188 557 LS ST M h := s_tab (off := 518) mt_188 dL_law_39 (by decide) (by decide) (by decide +kernel) rfl
theorem e188_39_8 : Rn X d 188 39 LS (.int (zN 8) :: ST) M h = Rn X d 188 641 LS ST M h := s_tab (off := 602) mt_188 dL_law_39 (by decide) (by decide) (by decide +kernel) rfl
theorem e188_39_9 : Rn X d 188 39 LS (.int (zN 9) :: ST) M h = Rn X d 188 709 LS ST M h := s_tab (off := 670) mt_188 dL_law_39 (by decide) (by decide) (by decide +kernel) rfl
theorem e188_39_10 : Rn X d 188 39 LS (.int (zN 10) :: ST) M h = Rn X d 188 777 LS ST M h := s_tab (off := 738) mt_188 dL_law_39 (by decide) (by decide) (by decide +kernel) rfl
theorem e188_39_11 : Rn X d 188 39 LS (.int (zN 11) :: ST) M h = Rn X d 188 845 LS ST M h := s_tab (off := 806) mt_188 dL_law_39 (by decide) (by decide) (by decide +kernel) rfl
theorem e188_39_12 : Rn X d 188 39 LS (.int (zN 12) :: ST) M h = Rn X d 188 901 LS ST M h := s_tab (off := 862) mt_188 dL_law_39 (by decide) (by decide) (by decide +kernel) rfl
theorem e188_39_13 : Rn X d 188 39 LS (.int (zN 13) :: ST) M h = Rn X d 188 957 LS ST M h := s_tab (off := 918) mt_188 dL_law_39 (by decide) (by decide) (by decide +kernel) rfl
theorem e188_39_14 : Rn X d 188 39 LS (.int (zN 14) :: ST) M h = Rn X d 188 1013 LS ST M h := s_tab (off := 974) mt_188 dL_law_39 (by decide) (by decide) (by decide +kernel) rfl
theorem e188_39_15 : Rn X d 188 39 LS (.int (zN 15) :: ST) M h = Rn X d 188 1081 LS ST M h := s_tab (off := 1042) mt_188 dL_law_39 (by decide) (by decide) (by decide +kernel) rfl
theorem e188_39_16 : Rn X d 188 39 LS (.int (zN 16) :: ST) M h = Rn X d 188 1094 LS ST M h := s_tab (off := 1055) mt_188 dL_law_39 (by decide) (by decide) (by decide +kernel) rfl
theorem e188_39_17 : Rn X d 188 39 LS (.int (zN 17) :: ST) M h = Rn X d 188 1150 LS ST M h := s_tab (off := 1111) mt_188 dL_law_39 (by decide) (by decide) (by decide +kernel) rfl
theorem e188_39_18 : Rn X d 188 39 LS (.int (zN 18) :: ST) M h = Rn X d 188 1163 LS ST M h := s_tab (off := 1124) mt_188 dL_law_39 (by decide) (by decide) (by decide +kernel) rfl
theorem e188_39_19 : Rn X d 188 39 LS (.int (zN 19) :: ST) M h = Rn X d 188 1204 LS ST M h := s_tab (off := 1165) mt_188 dL_law_39 (by decide) (by decide) (by decide +kernel) rfl
theorem e188_39_20 : Rn X d 188 39 LS (.int (zN 20) :: ST) M h = Rn X d 188 1260 LS ST M h := s_tab (off := 1221) mt_188 dL_law_39 (by decide) (by decide) (by decide +kernel) rfl
theorem e188_39_21 : Rn X d 188 39 LS (.int (zN 21) :: ST) M h = Rn X d 188 1273 LS ST M h := s_tab (off := 1234) mt_188 dL_law_39 (by decide) (by decide) (by decide +kernel) rfl
theorem e188_39_22 : Rn X d 188 39 LS (.int (zN 22) :: ST) M h = Rn X d 188 1286 LS ST M h := s_tab (off := 1247) mt_188 dL_law_39 (by decide) (by decide) (by decide +kernel) rfl
theorem e188_39_23 : Rn X d 188 39 LS (.int (zN 23) :: ST) M h = Rn X d 188 1330 LS ST M h := s_tab (off := 1291) mt_188 dL_law_39 (by decide) (by decide) (by decide +kernel) rfl
theorem e188_39_h {v : Nat} (h0 : v < 2147483648) (h1 : 23 < v) : Rn X d 188 39 LS (.int (zN v) :: ST) M h = Rn X d 188 1344 LS ST M h := s_tabD mt_188 dL_law_39 rfl h0 (Or.inr (by omega))
theorem e188_39_m {v : Nat} (h0 : v < 2147483648) : Rn X d 188 39 LS (.int (zM v) :: ST) M h = Rn X d 188 1344 LS ST M h := s_tabM mt_188 dL_law_39 rfl (by decide) h0
theorem e188_148 : Rn X d 188 148 (l0 :: some (.ref a) :: t) ST M h = Rn X d 188 149 (l0 :: some (.ref a) :: t) (.ref a :: ST) M h := r_aload_n mt_188 dL_law_148 rfl
theorem e188_149 : Rn X d 188 149 (some (.ref a) :: t) ST M h = Rn X d 188 150 (some (.ref a) :: t) (.ref a :: ST) M h := r_aload_n mt_188 dL_law_149 rfl
theorem e188_150 : Rn X d 188 150 (l0 :: l1 :: l2 :: l3 :: some (.int x) :: t) ST M h = Rn X d 188 152 (l0 :: l1 :: l2 :: l3 :: some (.int x) :: t) (.int x :: ST) M h := r_iload mt_188 dL_law_150 rfl
theorem e188_152 : Rn X d 188 152 LS ST M h = Rn X d 188 153 LS (.int (zN 1) :: ST) M h := r_iconst mt_188 dL_law_152 c_ic1
theorem e188_153 : Rn X d 188 153 LS (.int y :: .int x :: ST) M h = Rn X d 188 154 LS (.int (x + y) :: ST) M h := r_iadd mt_188 dL_law_153
theorem e188_154 : Rn X d 188 154 LS (.int x :: .ref a :: ST) M h = q_ld X (M a) a x d 188 155 LS ST M h := s_iald mt_188 dL_law_154
theorem e188_155 : Rn X d 188 155 (l0 :: l1 :: l2 :: some (.ref a) :: t) ST M h = Rn X d 188 156 (l0 :: l1 :: l2 :: some (.ref a) :: t) (.ref a :: ST) M h := r_aload_n mt_188 dL_law_155 rfl
theorem e188_156 (hcs : Nat.ble (j_cs ST) 8 = true) : Rn X (d + 1) 188 156 LS (.ref b :: .int x :: .ref a :: ST) M h = q_k X (Rn X d 171 0 [some (.ref a), some (.int x), some (.ref b), none] [] M (j_h0 h)) h (d + 1) 188 159 LS ST := s_callS (Or.inr (Or.inl rfl)) mt_188 dL_law_156 cl_8_75 mt_171 rfl (Nat.le_add_left _ _) rfl rfl rfl rfl hcs
theorem e188_159 (ho : j_one l4 = true) : Rn X d 188 159 (l0 :: l1 :: l2 :: l3 :: l4 :: l5 :: t) (.int x :: ST) M h = Rn X d 188 161 (l0 :: l1 :: l2 :: l3 :: l4 :: some (.int x) :: t) ST M h := r_istore mt_188 dL_law_159 (by show 5 < _; simp only [List.length_cons]; omega) ho rfl
theorem e188_161 : Rn X d 188 161 (l0 :: l1 :: some (.ref a) :: t) ST M h = Rn X d 188 162 (l0 :: l1 :: some (.ref a) :: t) (.ref a :: ST) M h := r_aload_n mt_188 dL_law_161 rfl
theorem e188_162 : Rn X d 188 162 (some (.ref a) :: t) ST M h = Rn X d 188 163 (some (.ref a) :: t) (.ref a :: ST) M h := r_aload_n mt_188 dL_law_162 rfl
theorem e188_163 : Rn X d 188 163 (l0 :: l1 :: l2 :: l3 :: some (.int x) :: t) ST M h = Rn X d 188 165 (l0 :: l1 :: l2 :: l3 :: some (.int x) :: t) (.int x :: ST) M h := r_iload mt_188 dL_law_163 rfl
theorem e188_165 : Rn X d 188 165 LS ST M h = Rn X d 188 166 LS (.int (zN 1) :: ST) M h := r_iconst mt_188 dL_law_165 c_ic1
theorem e188_166 : Rn X d 188 166 LS (.int y :: .int x :: ST) M h = Rn X d 188 167 LS (.int (x + y) :: ST) M h := r_iadd mt_188 dL_law_166
theorem e188_167 : Rn X d 188 167 LS (.int x :: .ref a :: ST) M h = q_ld X (M a) a x d 188 168 LS ST M h := s_iald mt_188 dL_law_167
theorem e188_168 (hcs : Nat.ble (j_cs ST) 8 = true) : Rn X (d + 1) 188 168 LS (.int x :: .ref a :: ST) M h = j_rc (M a) 5 (q_k X (Rn X d 126 0 [some (.ref a), some (.int x), none] [] M (j_h0 h)) h (d + 1) 188 171 LS ST) := s_callV mt_188 dL_law_168 cl_8_80 mt_126 rfl rfl (Nat.le_add_left _ _) rfl rfl rfl rfl hcs
theorem e188_171 (ho : j_one l5 = true) : Rn X d 188 171 (l0 :: l1 :: l2 :: l3 :: l4 :: l5 :: l6 :: t) (.int x :: ST) M h = Rn X d 188 173 (l0 :: l1 :: l2 :: l3 :: l4 :: l5 :: some (.int x) :: t) ST M h := r_istore mt_188 dL_law_171 (by show 6 < _; simp only [List.length_cons]; omega) ho rfl
theorem e188_173 : Rn X d 188 173 (l0 :: l1 :: some (.ref a) :: t) ST M h = Rn X d 188 174 (l0 :: l1 :: some (.ref a) :: t) (.ref a :: ST) M h := r_aload_n mt_188 dL_law_173 rfl
theorem e188_174 (hcs : Nat.ble (j_cs ST) 8 = true) : Rn X (d + 1) 188 174 LS (.ref a :: ST) M h = j_rc (M a) 5 (q_k X (Rn X d 101 0 [some (.ref a)] [] M (j_h0 h)) h (d + 1) 188 177 LS ST) := s_callV mt_188 dL_law_174 cl_8_81 mt_101 rfl rfl (Nat.le_add_left _ _) rfl rfl rfl rfl hcs
theorem e188_177 : Rn X d 188 177 (l0 :: l1 :: l2 :: l3 :: l4 :: some (.int x) :: t) ST M h = Rn X d 188 179 (l0 :: l1 :: l2 :: l3 :: l4 :: some (.int x) :: t) (.int x :: ST) M h := r_iload mt_188 dL_law_177 rfl
theorem e188_179 : Rn X d 188 179 LS (.int y :: .int x :: ST) M h = q_eq X x y d 188 184 182 LS ST M h := s_iceq mt_188 dL_law_179 rfl
theorem e188_182 : Rn X d 188 182 LS ST M h = Rn X d 188 183 LS (.int (zN 0) :: ST) M h := r_iconst mt_188 dL_law_182 c_ic0
theorem e188_183 {v : Nat} (h0 : v < 2) : Rn X d 188 183 LS ([.int (zN v)]) M h = some (.inl (some (.int (zN v))), M, h) := s_zret mt_188 dL_law_183 rfl h0
theorem e188_184 : Rn X d 188 184 (l0 :: l1 :: l2 :: l3 :: l4 :: some (.int x) :: t) ST M h = Rn X d 188 186 (l0 :: l1 :: l2 :: l3 :: l4 :: some (.int x) :: t) (.int x :: ST) M h := r_iload mt_188 dL_law_184 rfl
theorem e188_186 : Rn X d 188 186 LS (.int x :: ST) M h = q_eq X x (zN 0) d 188 189 201 LS ST M h := s_ifne mt_188 dL_law_186 rfl
theorem e188_189 : Rn X d 188 189 (l0 :: l1 :: l2 :: some (.ref a) :: t) ST M h = Rn X d 188 190 (l0 :: l1 :: l2 :: some (.ref a) :: t) (.ref a :: ST) M h := r_aload_n mt_188 dL_law_189 rfl
theorem e188_190 : Rn X d 188 190 LS ST M h = Rn X d 188 191 LS (.int (zN 0) :: ST) M h := r_iconst mt_188 dL_law_190 c_ic0
theorem e188_191 : Rn X d 188 191 LS (.int x :: .ref a :: ST) M h = q_lJ X (M a) x d 188 192 LS ST M h := s_lald mt_188 dL_law_191
theorem e188_192 : Rn X d 188 192 (l0 :: l1 :: l2 :: l3 :: l4 :: l5 :: some (.int x) :: t) ST M h = Rn X d 188 194 (l0 :: l1 :: l2 :: l3 :: l4 :: l5 :: some (.int x) :: t) (.int x :: ST) M h := r_iload mt_188 dL_law_192 rfl
theorem e188_194 : Rn X d 188 194 LS (.int x :: ST) M h = Rn X d 188 195 LS (.long x.toInt64 :: ST) M h := r_i2l mt_188 dL_law_194
theorem e188_195 : Rn X d 188 195 LS (.long q :: .long p :: ST) M h = Rn X d 188 196 LS (.int (lg_cmp p q) :: ST) M h := r_lcmp mt_188 dL_law_195
theorem e188_196 : Rn X d 188 196 LS (.int x :: ST) M h = q_eq X x (zN 0) d 188 201 199 LS ST M h := s_ifeq mt_188 dL_law_196 rfl
theorem e188_199 : Rn X d 188 199 LS ST M h = Rn X d 188 200 LS (.int (zN 0) :: ST) M h := r_iconst mt_188 dL_law_199 c_ic0
theorem e188_200 {v : Nat} (h0 : v < 2) : Rn X d 188 200 LS ([.int (zN v)]) M h = some (.inl (some (.int (zN v))), M, h) := s_zret mt_188 dL_law_200 rfl h0
theorem e188_201 : Rn X d 188 201 LS ST M h = Rn X d 188 1344 LS ST M h := r_goto mt_188 dL_law_201 rfl
theorem e188_204 : Rn X d 188 204 (l0 :: some (.ref a) :: t) ST M h = Rn X d 188 205 (l0 :: some (.ref a) :: t) (.ref a :: ST) M h := r_aload_n mt_188 dL_law_204 rfl
theorem e188_205 : Rn X d 188 205 (some (.ref a) :: t) ST M h = Rn X d 188 206 (some (.ref a) :: t) (.ref a :: ST) M h := r_aload_n mt_188 dL_law_205 rfl
theorem e188_206 : Rn X d 188 206 (l0 :: l1 :: l2 :: l3 :: some (.int x) :: t) ST M h = Rn X d 188 208 (l0 :: l1 :: l2 :: l3 :: some (.int x) :: t) (.int x :: ST) M h := r_iload mt_188 dL_law_206 rfl
theorem e188_208 : Rn X d 188 208 LS ST M h = Rn X d 188 209 LS (.int (zN 1) :: ST) M h := r_iconst mt_188 dL_law_208 c_ic1
theorem e188_209 : Rn X d 188 209 LS (.int y :: .int x :: ST) M h = Rn X d 188 210 LS (.int (x + y) :: ST) M h := r_iadd mt_188 dL_law_209
theorem e188_210 : Rn X d 188 210 LS (.int x :: .ref a :: ST) M h = q_ld X (M a) a x d 188 211 LS ST M h := s_iald mt_188 dL_law_210
theorem e188_211 : Rn X d 188 211 (some (.ref a) :: t) ST M h = Rn X d 188 212 (some (.ref a) :: t) (.ref a :: ST) M h := r_aload_n mt_188 dL_law_211 rfl
theorem e188_212 : Rn X d 188 212 (l0 :: l1 :: l2 :: l3 :: some (.int x) :: t) ST M h = Rn X d 188 214 (l0 :: l1 :: l2 :: l3 :: some (.int x) :: t) (.int x :: ST) M h := r_iload mt_188 dL_law_212 rfl
theorem e188_214 : Rn X d 188 214 LS ST M h = Rn X d 188 215 LS (.int (zN 2) :: ST) M h := r_iconst mt_188 dL_law_214 c_ic2
theorem e188_215 : Rn X d 188 215 LS (.int y :: .int x :: ST) M h = Rn X d 188 216 LS (.int (x + y) :: ST) M h := r_iadd mt_188 dL_law_215
theorem e188_216 : Rn X d 188 216 LS (.int x :: .ref a :: ST) M h = q_ld X (M a) a x d 188 217 LS ST M h := s_iald mt_188 dL_law_216
theorem e188_217 : Rn X d 188 217 (some (.ref a) :: t) ST M h = Rn X d 188 218 (some (.ref a) :: t) (.ref a :: ST) M h := r_aload_n mt_188 dL_law_217 rfl
theorem e188_218 : Rn X d 188 218 (l0 :: l1 :: l2 :: l3 :: some (.int x) :: t) ST M h = Rn X d 188 220 (l0 :: l1 :: l2 :: l3 :: some (.int x) :: t) (.int x :: ST) M h := r_iload mt_188 dL_law_218 rfl
theorem e188_220 : Rn X d 188 220 LS ST M h = Rn X d 188 221 LS (.int (zN 3) :: ST) M h := r_iconst mt_188 dL_law_220 c_ic3
theorem e188_221 : Rn X d 188 221 LS (.int y :: .int x :: ST) M h = Rn X d 188 222 LS (.int (x + y) :: ST) M h := r_iadd mt_188 dL_law_221
theorem e188_222 : Rn X d 188 222 LS (.int x :: .ref a :: ST) M h = q_ld X (M a) a x d 188 223 LS ST M h := s_iald mt_188 dL_law_222
theorem e188_223 : Rn X d 188 223 (some (.ref a) :: t) ST M h = Rn X d 188 224 (some (.ref a) :: t) (.ref a :: ST) M h := r_aload_n mt_188 dL_law_223 rfl
theorem e188_224 : Rn X d 188 224 (l0 :: l1 :: l2 :: l3 :: some (.int x) :: t) ST M h = Rn X d 188 226 (l0 :: l1 :: l2 :: l3 :: some (.int x) :: t) (.int x :: ST) M h := r_iload mt_188 dL_law_224 rfl
theorem e188_226 : Rn X d 188 226 LS ST M h = Rn X d 188 227 LS (.int (zN 4) :: ST) M h := r_iconst mt_188 dL_law_226 c_ic4
theorem e188_227 : Rn X d 188 227 LS (.int y :: .int x :: ST) M h = Rn X d 188 228 LS (.int (x + y) :: ST) M h := r_iadd mt_188 dL_law_227
theorem e188_228 : Rn X d 188 228 LS (.int x :: .ref a :: ST) M h = q_ld X (M a) a x d 188 229 LS ST M h := s_iald mt_188 dL_law_228
theorem e188_229 : Rn X d 188 229 (l0 :: l1 :: l2 :: some (.ref a) :: t) ST M h = Rn X d 188 230 (l0 :: l1 :: l2 :: some (.ref a) :: t) (.ref a :: ST) M h := r_aload_n mt_188 dL_law_229 rfl
theorem e188_230 (hcs : Nat.ble (j_cs ST) 8 = true) : Rn X (d + 1) 188 230 LS (.ref b :: .int w :: .int z :: .int y :: .int x :: .ref a :: ST) M h = q_k X (Rn X d 172 0 [some (.ref a), some (.int x), some (.int y), some (.int z), some (.int w), some (.ref b), none] [] M (j_h0 h)) h (d + 1) 188 233 LS ST := s_callS (Or.inr (Or.inl rfl)) mt_188 dL_law_230 cl_8_84 mt_172 rfl (Nat.le_add_left _ _) rfl rfl rfl rfl hcs
theorem e188_233 (ho : j_one l4 = true) : Rn X d 188 233 (l0 :: l1 :: l2 :: l3 :: l4 :: l5 :: t) (.int x :: ST) M h = Rn X d 188 235 (l0 :: l1 :: l2 :: l3 :: l4 :: some (.int x) :: t) ST M h := r_istore mt_188 dL_law_233 (by show 5 < _; simp only [List.length_cons]; omega) ho rfl
theorem e188_235 : Rn X d 188 235 (l0 :: l1 :: some (.ref a) :: t) ST M h = Rn X d 188 236 (l0 :: l1 :: some (.ref a) :: t) (.ref a :: ST) M h := r_aload_n mt_188 dL_law_235 rfl
theorem e188_236 : Rn X d 188 236 (some (.ref a) :: t) ST M h = Rn X d 188 237 (some (.ref a) :: t) (.ref a :: ST) M h := r_aload_n mt_188 dL_law_236 rfl
theorem e188_237 : Rn X d 188 237 (l0 :: l1 :: l2 :: l3 :: some (.int x) :: t) ST M h = Rn X d 188 239 (l0 :: l1 :: l2 :: l3 :: some (.int x) :: t) (.int x :: ST) M h := r_iload mt_188 dL_law_237 rfl
theorem e188_239 : Rn X d 188 239 LS ST M h = Rn X d 188 240 LS (.int (zN 1) :: ST) M h := r_iconst mt_188 dL_law_239 c_ic1
theorem e188_240 : Rn X d 188 240 LS (.int y :: .int x :: ST) M h = Rn X d 188 241 LS (.int (x + y) :: ST) M h := r_iadd mt_188 dL_law_240
theorem e188_241 : Rn X d 188 241 LS (.int x :: .ref a :: ST) M h = q_ld X (M a) a x d 188 242 LS ST M h := s_iald mt_188 dL_law_241
theorem e188_242 : Rn X d 188 242 (some (.ref a) :: t) ST M h = Rn X d 188 243 (some (.ref a) :: t) (.ref a :: ST) M h := r_aload_n mt_188 dL_law_242 rfl
theorem e188_243 : Rn X d 188 243 (l0 :: l1 :: l2 :: l3 :: some (.int x) :: t) ST M h = Rn X d 188 245 (l0 :: l1 :: l2 :: l3 :: some (.int x) :: t) (.int x :: ST) M h := r_iload mt_188 dL_law_243 rfl
theorem e188_245 : Rn X d 188 245 LS ST M h = Rn X d 188 246 LS (.int (zN 2) :: ST) M h := r_iconst mt_188 dL_law_245 c_ic2
theorem e188_246 : Rn X d 188 246 LS (.int y :: .int x :: ST) M h = Rn X d 188 247 LS (.int (x + y) :: ST) M h := r_iadd mt_188 dL_law_246
theorem e188_247 : Rn X d 188 247 LS (.int x :: .ref a :: ST) M h = q_ld X (M a) a x d 188 248 LS ST M h := s_iald mt_188 dL_law_247
theorem e188_248 : Rn X d 188 248 (some (.ref a) :: t) ST M h = Rn X d 188 249 (some (.ref a) :: t) (.ref a :: ST) M h := r_aload_n mt_188 dL_law_248 rfl
theorem e188_249 : Rn X d 188 249 (l0 :: l1 :: l2 :: l3 :: some (.int x) :: t) ST M h = Rn X d 188 251 (l0 :: l1 :: l2 :: l3 :: some (.int x) :: t) (.int x :: ST) M h := r_iload mt_188 dL_law_249 rfl
theorem e188_251 : Rn X d 188 251 LS ST M h = Rn X d 188 252 LS (.int (zN 3) :: ST) M h := r_iconst mt_188 dL_law_251 c_ic3
theorem e188_252 : Rn X d 188 252 LS (.int y :: .int x :: ST) M h = Rn X d 188 253 LS (.int (x + y) :: ST) M h := r_iadd mt_188 dL_law_252
theorem e188_253 : Rn X d 188 253 LS (.int x :: .ref a :: ST) M h = q_ld X (M a) a x d 188 254 LS ST M h := s_iald mt_188 dL_law_253
theorem e188_254 : Rn X d 188 254 (some (.ref a) :: t) ST M h = Rn X d 188 255 (some (.ref a) :: t) (.ref a :: ST) M h := r_aload_n mt_188 dL_law_254 rfl
theorem e188_255 : Rn X d 188 255 (l0 :: l1 :: l2 :: l3 :: some (.int x) :: t) ST M h = Rn X d 188 257 (l0 :: l1 :: l2 :: l3 :: some (.int x) :: t) (.int x :: ST) M h := r_iload mt_188 dL_law_255 rfl
theorem e188_257 : Rn X d 188 257 LS ST M h = Rn X d 188 258 LS (.int (zN 4) :: ST) M h := r_iconst mt_188 dL_law_257 c_ic4
theorem e188_258 : Rn X d 188 258 LS (.int y :: .int x :: ST) M h = Rn X d 188 259 LS (.int (x + y) :: ST) M h := r_iadd mt_188 dL_law_258
theorem e188_259 : Rn X d 188 259 LS (.int x :: .ref a :: ST) M h = q_ld X (M a) a x d 188 260 LS ST M h := s_iald mt_188 dL_law_259
theorem e188_260 (hcs : Nat.ble (j_cs ST) 8 = true) : Rn X (d + 1) 188 260 LS (.int w :: .int z :: .int y :: .int x :: .ref a :: ST) M h = j_rc (M a) 5 (q_k X (Rn X d 127 0 [some (.ref a), some (.int x), some (.int y), some (.int z), some (.int w)] [] M (j_h0 h)) h (d + 1) 188 263 LS ST) := s_callV mt_188 dL_law_260 cl_8_87 mt_127 rfl rfl (Nat.le_add_left _ _) rfl rfl rfl rfl hcs
theorem e188_263 (ho : j_one l5 = true) : Rn X d 188 263 (l0 :: l1 :: l2 :: l3 :: l4 :: l5 :: l6 :: t) (.int x :: ST) M h = Rn X d 188 265 (l0 :: l1 :: l2 :: l3 :: l4 :: l5 :: some (.int x) :: t) ST M h := r_istore mt_188 dL_law_263 (by show 6 < _; simp only [List.length_cons]; omega) ho rfl
theorem e188_265 : Rn X d 188 265 (l0 :: l1 :: some (.ref a) :: t) ST M h = Rn X d 188 266 (l0 :: l1 :: some (.ref a) :: t) (.ref a :: ST) M h := r_aload_n mt_188 dL_law_265 rfl
theorem e188_266 (hcs : Nat.ble (j_cs ST) 8 = true) : Rn X (d + 1) 188 266 LS (.ref a :: ST) M h = j_rc (M a) 5 (q_k X (Rn X d 101 0 [some (.ref a)] [] M (j_h0 h)) h (d + 1) 188 269 LS ST) := s_callV mt_188 dL_law_266 cl_8_81 mt_101 rfl rfl (Nat.le_add_left _ _) rfl rfl rfl rfl hcs
theorem e188_269 : Rn X d 188 269 (l0 :: l1 :: l2 :: l3 :: l4 :: some (.int x) :: t) ST M h = Rn X d 188 271 (l0 :: l1 :: l2 :: l3 :: l4 :: some (.int x) :: t) (.int x :: ST) M h := r_iload mt_188 dL_law_269 rfl
theorem e188_271 : Rn X d 188 271 LS (.int y :: .int x :: ST) M h = q_eq X x y d 188 276 274 LS ST M h := s_iceq mt_188 dL_law_271 rfl
theorem e188_274 : Rn X d 188 274 LS ST M h = Rn X d 188 275 LS (.int (zN 0) :: ST) M h := r_iconst mt_188 dL_law_274 c_ic0
theorem e188_275 {v : Nat} (h0 : v < 2) : Rn X d 188 275 LS ([.int (zN v)]) M h = some (.inl (some (.int (zN v))), M, h) := s_zret mt_188 dL_law_275 rfl h0
theorem e188_276 : Rn X d 188 276 (l0 :: l1 :: l2 :: l3 :: l4 :: some (.int x) :: t) ST M h = Rn X d 188 278 (l0 :: l1 :: l2 :: l3 :: l4 :: some (.int x) :: t) (.int x :: ST) M h := r_iload mt_188 dL_law_276 rfl
theorem e188_278 : Rn X d 188 278 LS (.int x :: ST) M h = q_eq X x (zN 0) d 188 281 293 LS ST M h := s_ifne mt_188 dL_law_278 rfl
theorem e188_281 : Rn X d 188 281 (l0 :: l1 :: l2 :: some (.ref a) :: t) ST M h = Rn X d 188 282 (l0 :: l1 :: l2 :: some (.ref a) :: t) (.ref a :: ST) M h := r_aload_n mt_188 dL_law_281 rfl
theorem e188_282 : Rn X d 188 282 LS ST M h = Rn X d 188 283 LS (.int (zN 0) :: ST) M h := r_iconst mt_188 dL_law_282 c_ic0
theorem e188_283 : Rn X d 188 283 LS (.int x :: .ref a :: ST) M h = q_lJ X (M a) x d 188 284 LS ST M h := s_lald mt_188 dL_law_283
theorem e188_284 : Rn X d 188 284 (l0 :: l1 :: l2 :: l3 :: l4 :: l5 :: some (.int x) :: t) ST M h = Rn X d 188 286 (l0 :: l1 :: l2 :: l3 :: l4 :: l5 :: some (.int x) :: t) (.int x :: ST) M h := r_iload mt_188 dL_law_284 rfl
theorem e188_286 : Rn X d 188 286 LS (.int x :: ST) M h = Rn X d 188 287 LS (.long x.toInt64 :: ST) M h := r_i2l mt_188 dL_law_286
theorem e188_287 : Rn X d 188 287 LS (.long q :: .long p :: ST) M h = Rn X d 188 288 LS (.int (lg_cmp p q) :: ST) M h := r_lcmp mt_188 dL_law_287
theorem e188_288 : Rn X d 188 288 LS (.int x :: ST) M h = q_eq X x (zN 0) d 188 293 291 LS ST M h := s_ifeq mt_188 dL_law_288 rfl
theorem e188_291 : Rn X d 188 291 LS ST M h = Rn X d 188 292 LS (.int (zN 0) :: ST) M h := r_iconst mt_188 dL_law_291 c_ic0
theorem e188_292 {v : Nat} (h0 : v < 2) : Rn X d 188 292 LS ([.int (zN v)]) M h = some (.inl (some (.int (zN v))), M, h) := s_zret mt_188 dL_law_292 rfl h0
theorem e188_293 : Rn X d 188 293 LS ST M h = Rn X d 188 1344 LS ST M h := r_goto mt_188 dL_law_293 rfl
theorem e188_296 : Rn X d 188 296 (l0 :: some (.ref a) :: t) ST M h = Rn X d 188 297 (l0 :: some (.ref a) :: t) (.ref a :: ST) M h := r_aload_n mt_188 dL_law_296 rfl
theorem e188_297 : Rn X d 188 297 (some (.ref a) :: t) ST M h = Rn X d 188 298 (some (.ref a) :: t) (.ref a :: ST) M h := r_aload_n mt_188 dL_law_297 rfl
theorem e188_298 : Rn X d 188 298 (l0 :: l1 :: l2 :: l3 :: some (.int x) :: t) ST M h = Rn X d 188 300 (l0 :: l1 :: l2 :: l3 :: some (.int x) :: t) (.int x :: ST) M h := r_iload mt_188 dL_law_298 rfl
theorem e188_300 : Rn X d 188 300 LS ST M h = Rn X d 188 301 LS (.int (zN 1) :: ST) M h := r_iconst mt_188 dL_law_300 c_ic1
theorem e188_301 : Rn X d 188 301 LS (.int y :: .int x :: ST) M h = Rn X d 188 302 LS (.int (x + y) :: ST) M h := r_iadd mt_188 dL_law_301
theorem e188_302 : Rn X d 188 302 LS (.int x :: .ref a :: ST) M h = q_ld X (M a) a x d 188 303 LS ST M h := s_iald mt_188 dL_law_302
theorem e188_303 : Rn X d 188 303 (some (.ref a) :: t) ST M h = Rn X d 188 304 (some (.ref a) :: t) (.ref a :: ST) M h := r_aload_n mt_188 dL_law_303 rfl
theorem e188_304 : Rn X d 188 304 (l0 :: l1 :: l2 :: l3 :: some (.int x) :: t) ST M h = Rn X d 188 306 (l0 :: l1 :: l2 :: l3 :: some (.int x) :: t) (.int x :: ST) M h := r_iload mt_188 dL_law_304 rfl
theorem e188_306 : Rn X d 188 306 LS ST M h = Rn X d 188 307 LS (.int (zN 2) :: ST) M h := r_iconst mt_188 dL_law_306 c_ic2
theorem e188_307 : Rn X d 188 307 LS (.int y :: .int x :: ST) M h = Rn X d 188 308 LS (.int (x + y) :: ST) M h := r_iadd mt_188 dL_law_307
theorem e188_308 : Rn X d 188 308 LS (.int x :: .ref a :: ST) M h = q_ld X (M a) a x d 188 309 LS ST M h := s_iald mt_188 dL_law_308
theorem e188_309 : Rn X d 188 309 (l0 :: l1 :: l2 :: some (.ref a) :: t) ST M h = Rn X d 188 310 (l0 :: l1 :: l2 :: some (.ref a) :: t) (.ref a :: ST) M h := r_aload_n mt_188 dL_law_309 rfl
theorem e188_310 (hcs : Nat.ble (j_cs ST) 8 = true) : Rn X (d + 1) 188 310 LS (.ref b :: .int y :: .int x :: .ref a :: ST) M h = q_k X (Rn X d 173 0 [some (.ref a), some (.int x), some (.int y), some (.ref b), none] [] M (j_h0 h)) h (d + 1) 188 313 LS ST := s_callS (Or.inr (Or.inl rfl)) mt_188 dL_law_310 cl_8_88 mt_173 rfl (Nat.le_add_left _ _) rfl rfl rfl rfl hcs
theorem e188_313 (ho : j_one l4 = true) : Rn X d 188 313 (l0 :: l1 :: l2 :: l3 :: l4 :: l5 :: t) (.int x :: ST) M h = Rn X d 188 315 (l0 :: l1 :: l2 :: l3 :: l4 :: some (.int x) :: t) ST M h := r_istore mt_188 dL_law_313 (by show 5 < _; simp only [List.length_cons]; omega) ho rfl
theorem e188_315 : Rn X d 188 315 (l0 :: l1 :: some (.ref a) :: t) ST M h = Rn X d 188 316 (l0 :: l1 :: some (.ref a) :: t) (.ref a :: ST) M h := r_aload_n mt_188 dL_law_315 rfl
theorem e188_316 : Rn X d 188 316 (some (.ref a) :: t) ST M h = Rn X d 188 317 (some (.ref a) :: t) (.ref a :: ST) M h := r_aload_n mt_188 dL_law_316 rfl
theorem e188_317 : Rn X d 188 317 (l0 :: l1 :: l2 :: l3 :: some (.int x) :: t) ST M h = Rn X d 188 319 (l0 :: l1 :: l2 :: l3 :: some (.int x) :: t) (.int x :: ST) M h := r_iload mt_188 dL_law_317 rfl
theorem e188_319 : Rn X d 188 319 LS ST M h = Rn X d 188 320 LS (.int (zN 1) :: ST) M h := r_iconst mt_188 dL_law_319 c_ic1
theorem e188_320 : Rn X d 188 320 LS (.int y :: .int x :: ST) M h = Rn X d 188 321 LS (.int (x + y) :: ST) M h := r_iadd mt_188 dL_law_320
theorem e188_321 : Rn X d 188 321 LS (.int x :: .ref a :: ST) M h = q_ld X (M a) a x d 188 322 LS ST M h := s_iald mt_188 dL_law_321
theorem e188_322 : Rn X d 188 322 (some (.ref a) :: t) ST M h = Rn X d 188 323 (some (.ref a) :: t) (.ref a :: ST) M h := r_aload_n mt_188 dL_law_322 rfl
theorem e188_323 : Rn X d 188 323 (l0 :: l1 :: l2 :: l3 :: some (.int x) :: t) ST M h = Rn X d 188 325 (l0 :: l1 :: l2 :: l3 :: some (.int x) :: t) (.int x :: ST) M h := r_iload mt_188 dL_law_323 rfl
theorem e188_325 : Rn X d 188 325 LS ST M h = Rn X d 188 326 LS (.int (zN 2) :: ST) M h := r_iconst mt_188 dL_law_325 c_ic2
theorem e188_326 : Rn X d 188 326 LS (.int y :: .int x :: ST) M h = Rn X d 188 327 LS (.int (x + y) :: ST) M h := r_iadd mt_188 dL_law_326
theorem e188_327 : Rn X d 188 327 LS (.int x :: .ref a :: ST) M h = q_ld X (M a) a x d 188 328 LS ST M h := s_iald mt_188 dL_law_327
theorem e188_328 (hcs : Nat.ble (j_cs ST) 8 = true) : Rn X (d + 1) 188 328 LS (.int y :: .int x :: .ref a :: ST) M h = j_rc (M a) 5 (q_k X (Rn X d 129 0 [some (.ref a), some (.int x), some (.int y)] [] M (j_h0 h)) h (d + 1) 188 331 LS ST) := s_callV mt_188 dL_law_328 cl_8_91 mt_129 rfl rfl (Nat.le_add_left _ _) rfl rfl rfl rfl hcs
theorem e188_331 (ho : j_one l5 = true) : Rn X d 188 331 (l0 :: l1 :: l2 :: l3 :: l4 :: l5 :: l6 :: t) (.int x :: ST) M h = Rn X d 188 333 (l0 :: l1 :: l2 :: l3 :: l4 :: l5 :: some (.int x) :: t) ST M h := r_istore mt_188 dL_law_331 (by show 6 < _; simp only [List.length_cons]; omega) ho rfl
theorem e188_333 : Rn X d 188 333 (l0 :: l1 :: some (.ref a) :: t) ST M h = Rn X d 188 334 (l0 :: l1 :: some (.ref a) :: t) (.ref a :: ST) M h := r_aload_n mt_188 dL_law_333 rfl
theorem e188_334 (hcs : Nat.ble (j_cs ST) 8 = true) : Rn X (d + 1) 188 334 LS (.ref a :: ST) M h = j_rc (M a) 5 (q_k X (Rn X d 101 0 [some (.ref a)] [] M (j_h0 h)) h (d + 1) 188 337 LS ST) := s_callV mt_188 dL_law_334 cl_8_81 mt_101 rfl rfl (Nat.le_add_left _ _) rfl rfl rfl rfl hcs
theorem e188_337 : Rn X d 188 337 (l0 :: l1 :: l2 :: l3 :: l4 :: some (.int x) :: t) ST M h = Rn X d 188 339 (l0 :: l1 :: l2 :: l3 :: l4 :: some (.int x) :: t) (.int x :: ST) M h := r_iload mt_188 dL_law_337 rfl
theorem e188_339 : Rn X d 188 339 LS (.int y :: .int x :: ST) M h = q_eq X x y d 188 344 342 LS ST M h := s_iceq mt_188 dL_law_339 rfl
theorem e188_342 : Rn X d 188 342 LS ST M h = Rn X d 188 343 LS (.int (zN 0) :: ST) M h := r_iconst mt_188 dL_law_342 c_ic0
theorem e188_343 {v : Nat} (h0 : v < 2) : Rn X d 188 343 LS ([.int (zN v)]) M h = some (.inl (some (.int (zN v))), M, h) := s_zret mt_188 dL_law_343 rfl h0
theorem e188_344 : Rn X d 188 344 (l0 :: l1 :: l2 :: l3 :: l4 :: some (.int x) :: t) ST M h = Rn X d 188 346 (l0 :: l1 :: l2 :: l3 :: l4 :: some (.int x) :: t) (.int x :: ST) M h := r_iload mt_188 dL_law_344 rfl
theorem e188_346 : Rn X d 188 346 LS (.int x :: ST) M h = q_eq X x (zN 0) d 188 349 361 LS ST M h := s_ifne mt_188 dL_law_346 rfl
theorem e188_349 : Rn X d 188 349 (l0 :: l1 :: l2 :: some (.ref a) :: t) ST M h = Rn X d 188 350 (l0 :: l1 :: l2 :: some (.ref a) :: t) (.ref a :: ST) M h := r_aload_n mt_188 dL_law_349 rfl
theorem e188_350 : Rn X d 188 350 LS ST M h = Rn X d 188 351 LS (.int (zN 0) :: ST) M h := r_iconst mt_188 dL_law_350 c_ic0
theorem e188_351 : Rn X d 188 351 LS (.int x :: .ref a :: ST) M h = q_lJ X (M a) x d 188 352 LS ST M h := s_lald mt_188 dL_law_351
theorem e188_352 : Rn X d 188 352 (l0 :: l1 :: l2 :: l3 :: l4 :: l5 :: some (.int x) :: t) ST M h = Rn X d 188 354 (l0 :: l1 :: l2 :: l3 :: l4 :: l5 :: some (.int x) :: t) (.int x :: ST) M h := r_iload mt_188 dL_law_352 rfl
theorem e188_354 : Rn X d 188 354 LS (.int x :: ST) M h = Rn X d 188 355 LS (.long x.toInt64 :: ST) M h := r_i2l mt_188 dL_law_354
theorem e188_355 : Rn X d 188 355 LS (.long q :: .long p :: ST) M h = Rn X d 188 356 LS (.int (lg_cmp p q) :: ST) M h := r_lcmp mt_188 dL_law_355
theorem e188_356 : Rn X d 188 356 LS (.int x :: ST) M h = q_eq X x (zN 0) d 188 361 359 LS ST M h := s_ifeq mt_188 dL_law_356 rfl
theorem e188_359 : Rn X d 188 359 LS ST M h = Rn X d 188 360 LS (.int (zN 0) :: ST) M h := r_iconst mt_188 dL_law_359 c_ic0
theorem e188_360 {v : Nat} (h0 : v < 2) : Rn X d 188 360 LS ([.int (zN v)]) M h = some (.inl (some (.int (zN v))), M, h) := s_zret mt_188 dL_law_360 rfl h0
theorem e188_361 : Rn X d 188 361 LS ST M h = Rn X d 188 1344 LS ST M h := r_goto mt_188 dL_law_361 rfl
theorem e188_364 : Rn X d 188 364 (l0 :: some (.ref a) :: t) ST M h = Rn X d 188 365 (l0 :: some (.ref a) :: t) (.ref a :: ST) M h := r_aload_n mt_188 dL_law_364 rfl
theorem e188_365 (hcs : Nat.ble (j_cs ST) 8 = true) : Rn X (d + 1) 188 365 LS (.ref a :: ST) M h = j_rc (M a) 4 (q_k X (Rn X d 65 0 [some (.ref a)] [] M (j_h0 h)) h (d + 1) 188 368 LS ST) := s_callV mt_188 dL_law_365 cl_8_92 mt_65 rfl rfl (Nat.le_add_left _ _) rfl rfl rfl rfl hcs
theorem e188_368 : Rn X d 188 368 (l0 :: l1 :: some (.ref a) :: t) ST M h = Rn X d 188 369 (l0 :: l1 :: some (.ref a) :: t) (.ref a :: ST) M h := r_aload_n mt_188 dL_law_368 rfl
theorem e188_369 (hcs : Nat.ble (j_cs ST) 8 = true) : Rn X (d + 1) 188 369 LS (.ref a :: ST) M h = j_rc (M a) 5 (q_k X (Rn X d 131 0 [some (.ref a), none, none] [] M (j_h0 h)) h (d + 1) 188 372 LS ST) := s_callV mt_188 dL_law_369 cl_8_95 mt_131 rfl rfl (Nat.le_add_left _ _) rfl rfl rfl rfl hcs
theorem e188_372 : Rn X d 188 372 LS (.int y :: .int x :: ST) M h = q_eq X x y d 188 1344 375 LS ST M h := s_iceq mt_188 dL_law_372 rfl
theorem e188_375 : Rn X d 188 375 LS ST M h = Rn X d 188 376 LS (.int (zN 0) :: ST) M h := r_iconst mt_188 dL_law_375 c_ic0
theorem e188_376 {v : Nat} (h0 : v < 2) : Rn X d 188 376 LS ([.int (zN v)]) M h = some (.inl (some (.int (zN v))), M, h) := s_zret mt_188 dL_law_376 rfl h0
theorem e188_377 : Rn X d 188 377 (l0 :: some (.ref a) :: t) ST M h = Rn X d 188 378 (l0 :: some (.ref a) :: t) (.ref a :: ST) M h := r_aload_n mt_188 dL_law_377 rfl
theorem e188_378 : Rn X d 188 378 (some (.ref a) :: t) ST M h = Rn X d 188 379 (some (.ref a) :: t) (.ref a :: ST) M h := r_aload_n mt_188 dL_law_378 rfl
theorem e188_379 : Rn X d 188 379 (l0 :: l1 :: l2 :: l3 :: some (.int x) :: t) ST M h = Rn X d 188 381 (l0 :: l1 :: l2 :: l3 :: some (.int x) :: t) (.int x :: ST) M h := r_iload mt_188 dL_law_379 rfl
theorem e188_381 : Rn X d 188 381 LS ST M h = Rn X d 188 382 LS (.int (zN 1) :: ST) M h := r_iconst mt_188 dL_law_381 c_ic1
theorem e188_382 : Rn X d 188 382 LS (.int y :: .int x :: ST) M h = Rn X d 188 383 LS (.int (x + y) :: ST) M h := r_iadd mt_188 dL_law_382
theorem e188_383 : Rn X d 188 383 LS (.int x :: .ref a :: ST) M h = q_ld X (M a) a x d 188 384 LS ST M h := s_iald mt_188 dL_law_383
theorem e188_384 : Rn X d 188 384 (some (.ref a) :: t) ST M h = Rn X d 188 385 (some (.ref a) :: t) (.ref a :: ST) M h := r_aload_n mt_188 dL_law_384 rfl
theorem e188_385 : Rn X d 188 385 (l0 :: l1 :: l2 :: l3 :: some (.int x) :: t) ST M h = Rn X d 188 387 (l0 :: l1 :: l2 :: l3 :: some (.int x) :: t) (.int x :: ST) M h := r_iload mt_188 dL_law_385 rfl
theorem e188_387 : Rn X d 188 387 LS ST M h = Rn X d 188 388 LS (.int (zN 2) :: ST) M h := r_iconst mt_188 dL_law_387 c_ic2
theorem e188_388 : Rn X d 188 388 LS (.int y :: .int x :: ST) M h = Rn X d 188 389 LS (.int (x + y) :: ST) M h := r_iadd mt_188 dL_law_388
theorem e188_389 : Rn X d 188 389 LS (.int x :: .ref a :: ST) M h = q_ld X (M a) a x d 188 390 LS ST M h := s_iald mt_188 dL_law_389
theorem e188_390 : Rn X d 188 390 (l0 :: l1 :: l2 :: some (.ref a) :: t) ST M h = Rn X d 188 391 (l0 :: l1 :: l2 :: some (.ref a) :: t) (.ref a :: ST) M h := r_aload_n mt_188 dL_law_390 rfl
theorem e188_391 (hcs : Nat.ble (j_cs ST) 8 = true) : Rn X (d + 1) 188 391 LS (.ref b :: .int y :: .int x :: .ref a :: ST) M h = q_k X (Rn X d 174 0 [some (.ref a), some (.int x), some (.int y), some (.ref b), none] [] M (j_h0 h)) h (d + 1) 188 394 LS ST := s_callS (Or.inr (Or.inl rfl)) mt_188 dL_law_391 cl_8_96 mt_174 rfl (Nat.le_add_left _ _) rfl rfl rfl rfl hcs
theorem e188_394 (ho : j_one l4 = true) : Rn X d 188 394 (l0 :: l1 :: l2 :: l3 :: l4 :: l5 :: t) (.int x :: ST) M h = Rn X d 188 396 (l0 :: l1 :: l2 :: l3 :: l4 :: some (.int x) :: t) ST M h := r_istore mt_188 dL_law_394 (by show 5 < _; simp only [List.length_cons]; omega) ho rfl
theorem e188_396 : Rn X d 188 396 (l0 :: l1 :: some (.ref a) :: t) ST M h = Rn X d 188 397 (l0 :: l1 :: some (.ref a) :: t) (.ref a :: ST) M h := r_aload_n mt_188 dL_law_396 rfl
theorem e188_397 : Rn X d 188 397 (some (.ref a) :: t) ST M h = Rn X d 188 398 (some (.ref a) :: t) (.ref a :: ST) M h := r_aload_n mt_188 dL_law_397 rfl
theorem e188_398 : Rn X d 188 398 (l0 :: l1 :: l2 :: l3 :: some (.int x) :: t) ST M h = Rn X d 188 400 (l0 :: l1 :: l2 :: l3 :: some (.int x) :: t) (.int x :: ST) M h := r_iload mt_188 dL_law_398 rfl
theorem e188_400 : Rn X d 188 400 LS ST M h = Rn X d 188 401 LS (.int (zN 1) :: ST) M h := r_iconst mt_188 dL_law_400 c_ic1
theorem e188_401 : Rn X d 188 401 LS (.int y :: .int x :: ST) M h = Rn X d 188 402 LS (.int (x + y) :: ST) M h := r_iadd mt_188 dL_law_401
theorem e188_402 : Rn X d 188 402 LS (.int x :: .ref a :: ST) M h = q_ld X (M a) a x d 188 403 LS ST M h := s_iald mt_188 dL_law_402
theorem e188_403 : Rn X d 188 403 (some (.ref a) :: t) ST M h = Rn X d 188 404 (some (.ref a) :: t) (.ref a :: ST) M h := r_aload_n mt_188 dL_law_403 rfl
theorem e188_404 : Rn X d 188 404 (l0 :: l1 :: l2 :: l3 :: some (.int x) :: t) ST M h = Rn X d 188 406 (l0 :: l1 :: l2 :: l3 :: some (.int x) :: t) (.int x :: ST) M h := r_iload mt_188 dL_law_404 rfl
theorem e188_406 : Rn X d 188 406 LS ST M h = Rn X d 188 407 LS (.int (zN 2) :: ST) M h := r_iconst mt_188 dL_law_406 c_ic2
theorem e188_407 : Rn X d 188 407 LS (.int y :: .int x :: ST) M h = Rn X d 188 408 LS (.int (x + y) :: ST) M h := r_iadd mt_188 dL_law_407
theorem e188_408 : Rn X d 188 408 LS (.int x :: .ref a :: ST) M h = q_ld X (M a) a x d 188 409 LS ST M h := s_iald mt_188 dL_law_408
theorem e188_409 (hcs : Nat.ble (j_cs ST) 8 = true) : Rn X (d + 1) 188 409 LS (.int y :: .int x :: .ref a :: ST) M h = j_rc (M a) 5 (q_k X (Rn X d 132 0 [some (.ref a), some (.int x), some (.int y)] [] M (j_h0 h)) h (d + 1) 188 412 LS ST) := s_callV mt_188 dL_law_409 cl_8_98 mt_132 rfl rfl (Nat.le_add_left _ _) rfl rfl rfl rfl hcs
theorem e188_412 (ho : j_one l5 = true) : Rn X d 188 412 (l0 :: l1 :: l2 :: l3 :: l4 :: l5 :: l6 :: t) (.int x :: ST) M h = Rn X d 188 414 (l0 :: l1 :: l2 :: l3 :: l4 :: l5 :: some (.int x) :: t) ST M h := r_istore mt_188 dL_law_412 (by show 6 < _; simp only [List.length_cons]; omega) ho rfl
theorem e188_414 : Rn X d 188 414 (l0 :: l1 :: some (.ref a) :: t) ST M h = Rn X d 188 415 (l0 :: l1 :: some (.ref a) :: t) (.ref a :: ST) M h := r_aload_n mt_188 dL_law_414 rfl
theorem e188_415 (hcs : Nat.ble (j_cs ST) 8 = true) : Rn X (d + 1) 188 415 LS (.ref a :: ST) M h = j_rc (M a) 5 (q_k X (Rn X d 101 0 [some (.ref a)] [] M (j_h0 h)) h (d + 1) 188 418 LS ST) := s_callV mt_188 dL_law_415 cl_8_81 mt_101 rfl rfl (Nat.le_add_left _ _) rfl rfl rfl rfl hcs
theorem e188_418 : Rn X d 188 418 (l0 :: l1 :: l2 :: l3 :: l4 :: some (.int x) :: t) ST M h = Rn X d 188 420 (l0 :: l1 :: l2 :: l3 :: l4 :: some (.int x) :: t) (.int x :: ST) M h := r_iload mt_188 dL_law_418 rfl
theorem e188_420 : Rn X d 188 420 LS (.int y :: .int x :: ST) M h = q_eq X x y d 188 425 423 LS ST M h := s_iceq mt_188 dL_law_420 rfl
theorem e188_423 : Rn X d 188 423 LS ST M h = Rn X d 188 424 LS (.int (zN 0) :: ST) M h := r_iconst mt_188 dL_law_423 c_ic0
theorem e188_424 {v : Nat} (h0 : v < 2) : Rn X d 188 424 LS ([.int (zN v)]) M h = some (.inl (some (.int (zN v))), M, h) := s_zret mt_188 dL_law_424 rfl h0
theorem e188_425 : Rn X d 188 425 (l0 :: l1 :: l2 :: l3 :: l4 :: some (.int x) :: t) ST M h = Rn X d 188 427 (l0 :: l1 :: l2 :: l3 :: l4 :: some (.int x) :: t) (.int x :: ST) M h := r_iload mt_188 dL_law_425 rfl
theorem e188_427 : Rn X d 188 427 LS (.int x :: ST) M h = q_eq X x (zN 0) d 188 430 442 LS ST M h := s_ifne mt_188 dL_law_427 rfl
theorem e188_430 : Rn X d 188 430 (l0 :: l1 :: l2 :: some (.ref a) :: t) ST M h = Rn X d 188 431 (l0 :: l1 :: l2 :: some (.ref a) :: t) (.ref a :: ST) M h := r_aload_n mt_188 dL_law_430 rfl
theorem e188_431 : Rn X d 188 431 LS ST M h = Rn X d 188 432 LS (.int (zN 0) :: ST) M h := r_iconst mt_188 dL_law_431 c_ic0
theorem e188_432 : Rn X d 188 432 LS (.int x :: .ref a :: ST) M h = q_lJ X (M a) x d 188 433 LS ST M h := s_lald mt_188 dL_law_432
theorem e188_433 : Rn X d 188 433 (l0 :: l1 :: l2 :: l3 :: l4 :: l5 :: some (.int x) :: t) ST M h = Rn X d 188 435 (l0 :: l1 :: l2 :: l3 :: l4 :: l5 :: some (.int x) :: t) (.int x :: ST) M h := r_iload mt_188 dL_law_433 rfl
theorem e188_435 : Rn X d 188 435 LS (.int x :: ST) M h = Rn X d 188 436 LS (.long x.toInt64 :: ST) M h := r_i2l mt_188 dL_law_435
theorem e188_436 : Rn X d 188 436 LS (.long q :: .long p :: ST) M h = Rn X d 188 437 LS (.int (lg_cmp p q) :: ST) M h := r_lcmp mt_188 dL_law_436
theorem e188_437 : Rn X d 188 437 LS (.int x :: ST) M h = q_eq X x (zN 0) d 188 442 440 LS ST M h := s_ifeq mt_188 dL_law_437 rfl
theorem e188_440 : Rn X d 188 440 LS ST M h = Rn X d 188 441 LS (.int (zN 0) :: ST) M h := r_iconst mt_188 dL_law_440 c_ic0
theorem e188_441 {v : Nat} (h0 : v < 2) : Rn X d 188 441 LS ([.int (zN v)]) M h = some (.inl (some (.int (zN v))), M, h) := s_zret mt_188 dL_law_441 rfl h0
theorem e188_442 : Rn X d 188 442 LS ST M h = Rn X d 188 1344 LS ST M h := r_goto mt_188 dL_law_442 rfl
theorem e188_445 : Rn X d 188 445 (l0 :: some (.ref a) :: t) ST M h = Rn X d 188 446 (l0 :: some (.ref a) :: t) (.ref a :: ST) M h := r_aload_n mt_188 dL_law_445 rfl
theorem e188_446 : Rn X d 188 446 (some (.ref a) :: t) ST M h = Rn X d 188 447 (some (.ref a) :: t) (.ref a :: ST) M h := r_aload_n mt_188 dL_law_446 rfl
theorem e188_447 : Rn X d 188 447 (l0 :: l1 :: l2 :: l3 :: some (.int x) :: t) ST M h = Rn X d 188 449 (l0 :: l1 :: l2 :: l3 :: some (.int x) :: t) (.int x :: ST) M h := r_iload mt_188 dL_law_447 rfl
theorem e188_449 : Rn X d 188 449 LS ST M h = Rn X d 188 450 LS (.int (zN 1) :: ST) M h := r_iconst mt_188 dL_law_449 c_ic1
theorem e188_450 : Rn X d 188 450 LS (.int y :: .int x :: ST) M h = Rn X d 188 451 LS (.int (x + y) :: ST) M h := r_iadd mt_188 dL_law_450
theorem e188_451 : Rn X d 188 451 LS (.int x :: .ref a :: ST) M h = q_ld X (M a) a x d 188 452 LS ST M h := s_iald mt_188 dL_law_451
theorem e188_452 : Rn X d 188 452 (l0 :: l1 :: l2 :: some (.ref a) :: t) ST M h = Rn X d 188 453 (l0 :: l1 :: l2 :: some (.ref a) :: t) (.ref a :: ST) M h := r_aload_n mt_188 dL_law_452 rfl
theorem e188_453 (hcs : Nat.ble (j_cs ST) 8 = true) : Rn X (d + 1) 188 453 LS (.ref b :: .int x :: .ref a :: ST) M h = q_k X (Rn X d 175 0 [some (.ref a), some (.int x), some (.ref b), none] [] M (j_h0 h)) h (d + 1) 188 456 LS ST := s_callS (Or.inr (Or.inl rfl)) mt_188 dL_law_453 cl_8_99 mt_175 rfl (Nat.le_add_left _ _) rfl rfl rfl rfl hcs
theorem e188_456 (ho : j_one l4 = true) : Rn X d 188 456 (l0 :: l1 :: l2 :: l3 :: l4 :: l5 :: t) (.int x :: ST) M h = Rn X d 188 458 (l0 :: l1 :: l2 :: l3 :: l4 :: some (.int x) :: t) ST M h := r_istore mt_188 dL_law_456 (by show 5 < _; simp only [List.length_cons]; omega) ho rfl
theorem e188_458 : Rn X d 188 458 (l0 :: l1 :: some (.ref a) :: t) ST M h = Rn X d 188 459 (l0 :: l1 :: some (.ref a) :: t) (.ref a :: ST) M h := r_aload_n mt_188 dL_law_458 rfl
theorem e188_459 : Rn X d 188 459 (some (.ref a) :: t) ST M h = Rn X d 188 460 (some (.ref a) :: t) (.ref a :: ST) M h := r_aload_n mt_188 dL_law_459 rfl
theorem e188_460 : Rn X d 188 460 (l0 :: l1 :: l2 :: l3 :: some (.int x) :: t) ST M h = Rn X d 188 462 (l0 :: l1 :: l2 :: l3 :: some (.int x) :: t) (.int x :: ST) M h := r_iload mt_188 dL_law_460 rfl
theorem e188_462 : Rn X d 188 462 LS ST M h = Rn X d 188 463 LS (.int (zN 1) :: ST) M h := r_iconst mt_188 dL_law_462 c_ic1
theorem e188_463 : Rn X d 188 463 LS (.int y :: .int x :: ST) M h = Rn X d 188 464 LS (.int (x + y) :: ST) M h := r_iadd mt_188 dL_law_463
theorem e188_464 : Rn X d 188 464 LS (.int x :: .ref a :: ST) M h = q_ld X (M a) a x d 188 465 LS ST M h := s_iald mt_188 dL_law_464
theorem e188_465 (hcs : Nat.ble (j_cs ST) 8 = true) : Rn X (d + 1) 188 465 LS (.int x :: .ref a :: ST) M h = j_rc (M a) 5 (q_k X (Rn X d 133 0 [some (.ref a), some (.int x)] [] M (j_h0 h)) h (d + 1) 188 468 LS ST) := s_callV mt_188 dL_law_465 cl_8_101 mt_133 rfl rfl (Nat.le_add_left _ _) rfl rfl rfl rfl hcs
theorem e188_468 (ho : j_one l5 = true) : Rn X d 188 468 (l0 :: l1 :: l2 :: l3 :: l4 :: l5 :: l6 :: t) (.int x :: ST) M h = Rn X d 188 470 (l0 :: l1 :: l2 :: l3 :: l4 :: l5 :: some (.int x) :: t) ST M h := r_istore mt_188 dL_law_468 (by show 6 < _; simp only [List.length_cons]; omega) ho rfl
theorem e188_470 : Rn X d 188 470 (l0 :: l1 :: some (.ref a) :: t) ST M h = Rn X d 188 471 (l0 :: l1 :: some (.ref a) :: t) (.ref a :: ST) M h := r_aload_n mt_188 dL_law_470 rfl
theorem e188_471 (hcs : Nat.ble (j_cs ST) 8 = true) : Rn X (d + 1) 188 471 LS (.ref a :: ST) M h = j_rc (M a) 5 (q_k X (Rn X d 101 0 [some (.ref a)] [] M (j_h0 h)) h (d + 1) 188 474 LS ST) := s_callV mt_188 dL_law_471 cl_8_81 mt_101 rfl rfl (Nat.le_add_left _ _) rfl rfl rfl rfl hcs
theorem e188_474 : Rn X d 188 474 (l0 :: l1 :: l2 :: l3 :: l4 :: some (.int x) :: t) ST M h = Rn X d 188 476 (l0 :: l1 :: l2 :: l3 :: l4 :: some (.int x) :: t) (.int x :: ST) M h := r_iload mt_188 dL_law_474 rfl
theorem e188_476 : Rn X d 188 476 LS (.int y :: .int x :: ST) M h = q_eq X x y d 188 481 479 LS ST M h := s_iceq mt_188 dL_law_476 rfl
theorem e188_479 : Rn X d 188 479 LS ST M h = Rn X d 188 480 LS (.int (zN 0) :: ST) M h := r_iconst mt_188 dL_law_479 c_ic0
theorem e188_480 {v : Nat} (h0 : v < 2) : Rn X d 188 480 LS ([.int (zN v)]) M h = some (.inl (some (.int (zN v))), M, h) := s_zret mt_188 dL_law_480 rfl h0
theorem e188_481 : Rn X d 188 481 (l0 :: l1 :: l2 :: l3 :: l4 :: some (.int x) :: t) ST M h = Rn X d 188 483 (l0 :: l1 :: l2 :: l3 :: l4 :: some (.int x) :: t) (.int x :: ST) M h := r_iload mt_188 dL_law_481 rfl
theorem e188_483 : Rn X d 188 483 LS (.int x :: ST) M h = q_eq X x (zN 0) d 188 486 498 LS ST M h := s_ifne mt_188 dL_law_483 rfl
theorem e188_486 : Rn X d 188 486 (l0 :: l1 :: l2 :: some (.ref a) :: t) ST M h = Rn X d 188 487 (l0 :: l1 :: l2 :: some (.ref a) :: t) (.ref a :: ST) M h := r_aload_n mt_188 dL_law_486 rfl
theorem e188_487 : Rn X d 188 487 LS ST M h = Rn X d 188 488 LS (.int (zN 0) :: ST) M h := r_iconst mt_188 dL_law_487 c_ic0
theorem e188_488 : Rn X d 188 488 LS (.int x :: .ref a :: ST) M h = q_lJ X (M a) x d 188 489 LS ST M h := s_lald mt_188 dL_law_488
theorem e188_489 : Rn X d 188 489 (l0 :: l1 :: l2 :: l3 :: l4 :: l5 :: some (.int x) :: t) ST M h = Rn X d 188 491 (l0 :: l1 :: l2 :: l3 :: l4 :: l5 :: some (.int x) :: t) (.int x :: ST) M h := r_iload mt_188 dL_law_489 rfl
theorem e188_491 : Rn X d 188 491 LS (.int x :: ST) M h = Rn X d 188 492 LS (.long x.toInt64 :: ST) M h := r_i2l mt_188 dL_law_491
theorem e188_492 : Rn X d 188 492 LS (.long q :: .long p :: ST) M h = Rn X d 188 493 LS (.int (lg_cmp p q) :: ST) M h := r_lcmp mt_188 dL_law_492
theorem e188_493 : Rn X d 188 493 LS (.int x :: ST) M h = q_eq X x (zN 0) d 188 498 496 LS ST M h := s_ifeq mt_188 dL_law_493 rfl
theorem e188_496 : Rn X d 188 496 LS ST M h = Rn X d 188 497 LS (.int (zN 0) :: ST) M h := r_iconst mt_188 dL_law_496 c_ic0
theorem e188_497 {v : Nat} (h0 : v < 2) : Rn X d 188 497 LS ([.int (zN v)]) M h = some (.inl (some (.int (zN v))), M, h) := s_zret mt_188 dL_law_497 rfl h0
theorem e188_498 : Rn X d 188 498 LS ST M h = Rn X d 188 1344 LS ST M h := r_goto mt_188 dL_law_498 rfl
theorem e188_501 : Rn X d 188 501 (l0 :: some (.ref a) :: t) ST M h = Rn X d 188 502 (l0 :: some (.ref a) :: t) (.ref a :: ST) M h := r_aload_n mt_188 dL_law_501 rfl
theorem e188_502 : Rn X d 188 502 (some (.ref a) :: t) ST M h = Rn X d 188 503 (some (.ref a) :: t) (.ref a :: ST) M h := r_aload_n mt_188 dL_law_502 rfl
theorem e188_503 : Rn X d 188 503 (l0 :: l1 :: l2 :: l3 :: some (.int x) :: t) ST M h = Rn X d 188 505 (l0 :: l1 :: l2 :: l3 :: some (.int x) :: t) (.int x :: ST) M h := r_iload mt_188 dL_law_503 rfl
theorem e188_505 : Rn X d 188 505 LS ST M h = Rn X d 188 506 LS (.int (zN 1) :: ST) M h := r_iconst mt_188 dL_law_505 c_ic1
theorem e188_506 : Rn X d 188 506 LS (.int y :: .int x :: ST) M h = Rn X d 188 507 LS (.int (x + y) :: ST) M h := r_iadd mt_188 dL_law_506
theorem e188_507 : Rn X d 188 507 LS (.int x :: .ref a :: ST) M h = q_ld X (M a) a x d 188 508 LS ST M h := s_iald mt_188 dL_law_507
theorem e188_508 : Rn X d 188 508 (l0 :: l1 :: l2 :: some (.ref a) :: t) ST M h = Rn X d 188 509 (l0 :: l1 :: l2 :: some (.ref a) :: t) (.ref a :: ST) M h := r_aload_n mt_188 dL_law_508 rfl
theorem e188_509 (hcs : Nat.ble (j_cs ST) 8 = true) : Rn X (d + 1) 188 509 LS (.ref b :: .int x :: .ref a :: ST) M h = q_k X (Rn X d 176 0 [some (.ref a), some (.int x), some (.ref b), none] [] M (j_h0 h)) h (d + 1) 188 512 LS ST := s_callS (Or.inr (Or.inl rfl)) mt_188 dL_law_509 cl_8_102 mt_176 rfl (Nat.le_add_left _ _) rfl rfl rfl rfl hcs
theorem e188_512 (ho : j_one l4 = true) : Rn X d 188 512 (l0 :: l1 :: l2 :: l3 :: l4 :: l5 :: t) (.int x :: ST) M h = Rn X d 188 514 (l0 :: l1 :: l2 :: l3 :: l4 :: some (.int x) :: t) ST M h := r_istore mt_188 dL_law_512 (by show 5 < _; simp only [List.length_cons]; omega) ho rfl
theorem e188_514 : Rn X d 188 514 (l0 :: l1 :: some (.ref a) :: t) ST M h = Rn X d 188 515 (l0 :: l1 :: some (.ref a) :: t) (.ref a :: ST) M h := r_aload_n mt_188 dL_law_514 rfl
theorem e188_515 : Rn X d 188 515 (some (.ref a) :: t) ST M h = Rn X d 188 516 (some (.ref a) :: t) (.ref a :: ST) M h := r_aload_n mt_188 dL_law_515 rfl
theorem e188_516 : Rn X d 188 516 (l0 :: l1 :: l2 :: l3 :: some (.int x) :: t) ST M h = Rn X d 188 518 (l0 :: l1 :: l2 :: l3 :: some (.int x) :: t) (.int x :: ST) M h := r_iload mt_188 dL_law_516 rfl
theorem e188_518 : Rn X d 188 518 LS ST M h = Rn X d 188 519 LS (.int (zN 1) :: ST) M h := r_iconst mt_188 dL_law_518 c_ic1
theorem e188_519 : Rn X d 188 519 LS (.int y :: .int x :: ST) M h = Rn X d 188 520 LS (.int (x + y) :: ST) M h := r_iadd mt_188 dL_law_519
theorem e188_520 : Rn X d 188 520 LS (.int x :: .ref a :: ST) M h = q_ld X (M a) a x d 188 521 LS ST M h := s_iald mt_188 dL_law_520
theorem e188_521 (hcs : Nat.ble (j_cs ST) 8 = true) : Rn X (d + 1) 188 521 LS (.int x :: .ref a :: ST) M h = j_rc (M a) 5 (q_k X (Rn X d 134 0 [some (.ref a), some (.int x)] [] M (j_h0 h)) h (d + 1) 188 524 LS ST) := s_callV mt_188 dL_law_521 cl_8_104 mt_134 rfl rfl (Nat.le_add_left _ _) rfl rfl rfl rfl hcs
theorem e188_524 (ho : j_one l5 = true) : Rn X d 188 524 (l0 :: l1 :: l2 :: l3 :: l4 :: l5 :: l6 :: t) (.int x :: ST) M h = Rn X d 188 526 (l0 :: l1 :: l2 :: l3 :: l4 :: l5 :: some (.int x) :: t) ST M h := r_istore mt_188 dL_law_524 (by show 6 < _; simp only [List.length_cons]; omega) ho rfl
theorem e188_526 : Rn X d 188 526 (l0 :: l1 :: some (.ref a) :: t) ST M h = Rn X d 188 527 (l0 :: l1 :: some (.ref a) :: t) (.ref a :: ST) M h := r_aload_n mt_188 dL_law_526 rfl
theorem e188_527 (hcs : Nat.ble (j_cs ST) 8 = true) : Rn X (d + 1) 188 527 LS (.ref a :: ST) M h = j_rc (M a) 5 (q_k X (Rn X d 101 0 [some (.ref a)] [] M (j_h0 h)) h (d + 1) 188 530 LS ST) := s_callV mt_188 dL_law_527 cl_8_81 mt_101 rfl rfl (Nat.le_add_left _ _) rfl rfl rfl rfl hcs
theorem e188_530 : Rn X d 188 530 (l0 :: l1 :: l2 :: l3 :: l4 :: some (.int x) :: t) ST M h = Rn X d 188 532 (l0 :: l1 :: l2 :: l3 :: l4 :: some (.int x) :: t) (.int x :: ST) M h := r_iload mt_188 dL_law_530 rfl
theorem e188_532 : Rn X d 188 532 LS (.int y :: .int x :: ST) M h = q_eq X x y d 188 537 535 LS ST M h := s_iceq mt_188 dL_law_532 rfl
theorem e188_535 : Rn X d 188 535 LS ST M h = Rn X d 188 536 LS (.int (zN 0) :: ST) M h := r_iconst mt_188 dL_law_535 c_ic0
theorem e188_536 {v : Nat} (h0 : v < 2) : Rn X d 188 536 LS ([.int (zN v)]) M h = some (.inl (some (.int (zN v))), M, h) := s_zret mt_188 dL_law_536 rfl h0
theorem e188_537 : Rn X d 188 537 (l0 :: l1 :: l2 :: l3 :: l4 :: some (.int x) :: t) ST M h = Rn X d 188 539 (l0 :: l1 :: l2 :: l3 :: l4 :: some (.int x) :: t) (.int x :: ST) M h := r_iload mt_188 dL_law_537 rfl
theorem e188_539 : Rn X d 188 539 LS (.int x :: ST) M h = q_eq X x (zN 0) d 188 542 554 LS ST M h := s_ifne mt_188 dL_law_539 rfl
theorem e188_542 : Rn X d 188 542 (l0 :: l1 :: l2 :: some (.ref a) :: t) ST M h = Rn X d 188 543 (l0 :: l1 :: l2 :: some (.ref a) :: t) (.ref a :: ST) M h := r_aload_n mt_188 dL_law_542 rfl
theorem e188_543 : Rn X d 188 543 LS ST M h = Rn X d 188 544 LS (.int (zN 0) :: ST) M h := r_iconst mt_188 dL_law_543 c_ic0
theorem e188_544 : Rn X d 188 544 LS (.int x :: .ref a :: ST) M h = q_lJ X (M a) x d 188 545 LS ST M h := s_lald mt_188 dL_law_544
theorem e188_545 : Rn X d 188 545 (l0 :: l1 :: l2 :: l3 :: l4 :: l5 :: some (.int x) :: t) ST M h = Rn X d 188 547 (l0 :: l1 :: l2 :: l3 :: l4 :: l5 :: some (.int x) :: t) (.int x :: ST) M h := r_iload mt_188 dL_law_545 rfl
theorem e188_547 : Rn X d 188 547 LS (.int x :: ST) M h = Rn X d 188 548 LS (.long x.toInt64 :: ST) M h := r_i2l mt_188 dL_law_547
theorem e188_548 : Rn X d 188 548 LS (.long q :: .long p :: ST) M h = Rn X d 188 549 LS (.int (lg_cmp p q) :: ST) M h := r_lcmp mt_188 dL_law_548
theorem e188_549 : Rn X d 188 549 LS (.int x :: ST) M h = q_eq X x (zN 0) d 188 554 552 LS ST M h := s_ifeq mt_188 dL_law_549 rfl
theorem e188_552 : Rn X d 188 552 LS ST M h = Rn X d 188 553 LS (.int (zN 0) :: ST) M h := r_iconst mt_188 dL_law_552 c_ic0
theorem e188_553 {v : Nat} (h0 : v < 2) : Rn X d 188 553 LS ([.int (zN v)]) M h = some (.inl (some (.int (zN v))), M, h) := s_zret mt_188 dL_law_553 rfl h0
theorem e188_554 : Rn X d 188 554 LS ST M h = Rn X d 188 1344 LS ST M h := r_goto mt_188 dL_law_554 rfl
theorem e188_557 : Rn X d 188 557 (l0 :: some (.ref a) :: t) ST M h = Rn X d 188 558 (l0 :: some (.ref a) :: t) (.ref a :: ST) M h := r_aload_n mt_188 dL_law_557 rfl
theorem e188_558 : Rn X d 188 558 (some (.ref a) :: t) ST M h = Rn X d 188 559 (some (.ref a) :: t) (.ref a :: ST) M h := r_aload_n mt_188 dL_law_558 rfl
theorem e188_559 : Rn X d 188 559 (l0 :: l1 :: l2 :: l3 :: some (.int x) :: t) ST M h = Rn X d 188 561 (l0 :: l1 :: l2 :: l3 :: some (.int x) :: t) (.int x :: ST) M h := r_iload mt_188 dL_law_559 rfl
theorem e188_561 : Rn X d 188 561 LS ST M h = Rn X d 188 562 LS (.int (zN 1) :: ST) M h := r_iconst mt_188 dL_law_561 c_ic1
theorem e188_562 : Rn X d 188 562 LS (.int y :: .int x :: ST) M h = Rn X d 188 563 LS (.int (x + y) :: ST) M h := r_iadd mt_188 dL_law_562
theorem e188_563 : Rn X d 188 563 LS (.int x :: .ref a :: ST) M h = q_ld X (M a) a x d 188 564 LS ST M h := s_iald mt_188 dL_law_563
theorem e188_564 : Rn X d 188 564 (some (.ref a) :: t) ST M h = Rn X d 188 565 (some (.ref a) :: t) (.ref a :: ST) M h := r_aload_n mt_188 dL_law_564 rfl
theorem e188_565 : Rn X d 188 565 (l0 :: l1 :: l2 :: l3 :: some (.int x) :: t) ST M h = Rn X d 188 567 (l0 :: l1 :: l2 :: l3 :: some (.int x) :: t) (.int x :: ST) M h := r_iload mt_188 dL_law_565 rfl
theorem e188_567 : Rn X d 188 567 LS ST M h = Rn X d 188 568 LS (.int (zN 2) :: ST) M h := r_iconst mt_188 dL_law_567 c_ic2
theorem e188_568 : Rn X d 188 568 LS (.int y :: .int x :: ST) M h = Rn X d 188 569 LS (.int (x + y) :: ST) M h := r_iadd mt_188 dL_law_568
theorem e188_569 : Rn X d 188 569 LS (.int x :: .ref a :: ST) M h = q_ld X (M a) a x d 188 570 LS ST M h := s_iald mt_188 dL_law_569
theorem e188_570 : Rn X d 188 570 LS (.int x :: ST) M h = q_eq X x (zN 0) d 188 577 573 LS ST M h := s_ifeq mt_188 dL_law_570 rfl
theorem e188_573 : Rn X d 188 573 LS ST M h = Rn X d 188 574 LS (.int (zN 1) :: ST) M h := r_iconst mt_188 dL_law_573 c_ic1
theorem e188_574 : Rn X d 188 574 LS ST M h = Rn X d 188 578 LS ST M h := r_goto mt_188 dL_law_574 rfl
theorem e188_577 : Rn X d 188 577 LS ST M h = Rn X d 188 578 LS (.int (zN 0) :: ST) M h := r_iconst mt_188 dL_law_577 c_ic0
theorem e188_578 : Rn X d 188 578 (l0 :: l1 :: l2 :: some (.ref a) :: t) ST M h = Rn X d 188 579 (l0 :: l1 :: l2 :: some (.ref a) :: t) (.ref a :: ST) M h := r_aload_n mt_188 dL_law_578 rfl
theorem e188_579 (hcs : Nat.ble (j_cs ST) 8 = true) : Rn X (d + 1) 188 579 LS (.ref b :: .int y :: .int x :: .ref a :: ST) M h = q_k X (Rn X d 177 0 [some (.ref a), some (.int x), some (.int y), some (.ref b), none] [] M (j_h0 h)) h (d + 1) 188 582 LS ST := s_callS (Or.inr (Or.inl rfl)) mt_188 dL_law_579 cl_8_105 mt_177 rfl (Nat.le_add_left _ _) rfl rfl rfl rfl hcs
theorem e188_582 (ho : j_one l4 = true) : Rn X d 188 582 (l0 :: l1 :: l2 :: l3 :: l4 :: l5 :: t) (.int x :: ST) M h = Rn X d 188 584 (l0 :: l1 :: l2 :: l3 :: l4 :: some (.int x) :: t) ST M h := r_istore mt_188 dL_law_582 (by show 5 < _; simp only [List.length_cons]; omega) ho rfl
theorem e188_584 : Rn X d 188 584 (l0 :: l1 :: some (.ref a) :: t) ST M h = Rn X d 188 585 (l0 :: l1 :: some (.ref a) :: t) (.ref a :: ST) M h := r_aload_n mt_188 dL_law_584 rfl
theorem e188_585 : Rn X d 188 585 (some (.ref a) :: t) ST M h = Rn X d 188 586 (some (.ref a) :: t) (.ref a :: ST) M h := r_aload_n mt_188 dL_law_585 rfl
theorem e188_586 : Rn X d 188 586 (l0 :: l1 :: l2 :: l3 :: some (.int x) :: t) ST M h = Rn X d 188 588 (l0 :: l1 :: l2 :: l3 :: some (.int x) :: t) (.int x :: ST) M h := r_iload mt_188 dL_law_586 rfl
theorem e188_588 : Rn X d 188 588 LS ST M h = Rn X d 188 589 LS (.int (zN 1) :: ST) M h := r_iconst mt_188 dL_law_588 c_ic1
theorem e188_589 : Rn X d 188 589 LS (.int y :: .int x :: ST) M h = Rn X d 188 590 LS (.int (x + y) :: ST) M h := r_iadd mt_188 dL_law_589
theorem e188_590 : Rn X d 188 590 LS (.int x :: .ref a :: ST) M h = q_ld X (M a) a x d 188 591 LS ST M h := s_iald mt_188 dL_law_590
theorem e188_591 : Rn X d 188 591 (some (.ref a) :: t) ST M h = Rn X d 188 592 (some (.ref a) :: t) (.ref a :: ST) M h := r_aload_n mt_188 dL_law_591 rfl
theorem e188_592 : Rn X d 188 592 (l0 :: l1 :: l2 :: l3 :: some (.int x) :: t) ST M h = Rn X d 188 594 (l0 :: l1 :: l2 :: l3 :: some (.int x) :: t) (.int x :: ST) M h := r_iload mt_188 dL_law_592 rfl
theorem e188_594 : Rn X d 188 594 LS ST M h = Rn X d 188 595 LS (.int (zN 2) :: ST) M h := r_iconst mt_188 dL_law_594 c_ic2
theorem e188_595 : Rn X d 188 595 LS (.int y :: .int x :: ST) M h = Rn X d 188 596 LS (.int (x + y) :: ST) M h := r_iadd mt_188 dL_law_595
theorem e188_596 : Rn X d 188 596 LS (.int x :: .ref a :: ST) M h = q_ld X (M a) a x d 188 597 LS ST M h := s_iald mt_188 dL_law_596
theorem e188_597 : Rn X d 188 597 LS (.int x :: ST) M h = q_eq X x (zN 0) d 188 604 600 LS ST M h := s_ifeq mt_188 dL_law_597 rfl
theorem e188_600 : Rn X d 188 600 LS ST M h = Rn X d 188 601 LS (.int (zN 1) :: ST) M h := r_iconst mt_188 dL_law_600 c_ic1
theorem e188_601 : Rn X d 188 601 LS ST M h = Rn X d 188 605 LS ST M h := r_goto mt_188 dL_law_601 rfl
theorem e188_604 : Rn X d 188 604 LS ST M h = Rn X d 188 605 LS (.int (zN 0) :: ST) M h := r_iconst mt_188 dL_law_604 c_ic0
theorem e188_605 (hcs : Nat.ble (j_cs ST) 8 = true) : Rn X (d + 1) 188 605 LS (.int y :: .int x :: .ref a :: ST) M h = j_rc (M a) 5 (q_k X (Rn X d 135 0 [some (.ref a), some (.int x), some (.int y), none] [] M (j_h0 h)) h (d + 1) 188 608 LS ST) := s_callV mt_188 dL_law_605 cl_8_108 mt_135 rfl rfl (Nat.le_add_left _ _) rfl rfl rfl rfl hcs
theorem e188_608 (ho : j_one l5 = true) : Rn X d 188 608 (l0 :: l1 :: l2 :: l3 :: l4 :: l5 :: l6 :: t) (.int x :: ST) M h = Rn X d 188 610 (l0 :: l1 :: l2 :: l3 :: l4 :: l5 :: some (.int x) :: t) ST M h := r_istore mt_188 dL_law_608 (by show 6 < _; simp only [List.length_cons]; omega) ho rfl
theorem e188_610 : Rn X d 188 610 (l0 :: l1 :: some (.ref a) :: t) ST M h = Rn X d 188 611 (l0 :: l1 :: some (.ref a) :: t) (.ref a :: ST) M h := r_aload_n mt_188 dL_law_610 rfl
theorem e188_611 (hcs : Nat.ble (j_cs ST) 8 = true) : Rn X (d + 1) 188 611 LS (.ref a :: ST) M h = j_rc (M a) 5 (q_k X (Rn X d 101 0 [some (.ref a)] [] M (j_h0 h)) h (d + 1) 188 614 LS ST) := s_callV mt_188 dL_law_611 cl_8_81 mt_101 rfl rfl (Nat.le_add_left _ _) rfl rfl rfl rfl hcs
theorem e188_614 : Rn X d 188 614 (l0 :: l1 :: l2 :: l3 :: l4 :: some (.int x) :: t) ST M h = Rn X d 188 616 (l0 :: l1 :: l2 :: l3 :: l4 :: some (.int x) :: t) (.int x :: ST) M h := r_iload mt_188 dL_law_614 rfl
theorem e188_616 : Rn X d 188 616 LS (.int y :: .int x :: ST) M h = q_eq X x y d 188 621 619 LS ST M h := s_iceq mt_188 dL_law_616 rfl
theorem e188_619 : Rn X d 188 619 LS ST M h = Rn X d 188 620 LS (.int (zN 0) :: ST) M h := r_iconst mt_188 dL_law_619 c_ic0
theorem e188_620 {v : Nat} (h0 : v < 2) : Rn X d 188 620 LS ([.int (zN v)]) M h = some (.inl (some (.int (zN v))), M, h) := s_zret mt_188 dL_law_620 rfl h0
theorem e188_621 : Rn X d 188 621 (l0 :: l1 :: l2 :: l3 :: l4 :: some (.int x) :: t) ST M h = Rn X d 188 623 (l0 :: l1 :: l2 :: l3 :: l4 :: some (.int x) :: t) (.int x :: ST) M h := r_iload mt_188 dL_law_621 rfl
theorem e188_623 : Rn X d 188 623 LS (.int x :: ST) M h = q_eq X x (zN 0) d 188 626 638 LS ST M h := s_ifne mt_188 dL_law_623 rfl
theorem e188_626 : Rn X d 188 626 (l0 :: l1 :: l2 :: some (.ref a) :: t) ST M h = Rn X d 188 627 (l0 :: l1 :: l2 :: some (.ref a) :: t) (.ref a :: ST) M h := r_aload_n mt_188 dL_law_626 rfl
theorem e188_627 : Rn X d 188 627 LS ST M h = Rn X d 188 628 LS (.int (zN 0) :: ST) M h := r_iconst mt_188 dL_law_627 c_ic0
theorem e188_628 : Rn X d 188 628 LS (.int x :: .ref a :: ST) M h = q_lJ X (M a) x d 188 629 LS ST M h := s_lald mt_188 dL_law_628
theorem e188_629 : Rn X d 188 629 (l0 :: l1 :: l2 :: l3 :: l4 :: l5 :: some (.int x) :: t) ST M h = Rn X d 188 631 (l0 :: l1 :: l2 :: l3 :: l4 :: l5 :: some (.int x) :: t) (.int x :: ST) M h := r_iload mt_188 dL_law_629 rfl
theorem e188_631 : Rn X d 188 631 LS (.int x :: ST) M h = Rn X d 188 632 LS (.long x.toInt64 :: ST) M h := r_i2l mt_188 dL_law_631
theorem e188_632 : Rn X d 188 632 LS (.long q :: .long p :: ST) M h = Rn X d 188 633 LS (.int (lg_cmp p q) :: ST) M h := r_lcmp mt_188 dL_law_632
theorem e188_633 : Rn X d 188 633 LS (.int x :: ST) M h = q_eq X x (zN 0) d 188 638 636 LS ST M h := s_ifeq mt_188 dL_law_633 rfl
theorem e188_636 : Rn X d 188 636 LS ST M h = Rn X d 188 637 LS (.int (zN 0) :: ST) M h := r_iconst mt_188 dL_law_636 c_ic0
theorem e188_637 {v : Nat} (h0 : v < 2) : Rn X d 188 637 LS ([.int (zN v)]) M h = some (.inl (some (.int (zN v))), M, h) := s_zret mt_188 dL_law_637 rfl h0
theorem e188_638 : Rn X d 188 638 LS ST M h = Rn X d 188 1344 LS ST M h := r_goto mt_188 dL_law_638 rfl
theorem e188_641 : Rn X d 188 641 (l0 :: some (.ref a) :: t) ST M h = Rn X d 188 642 (l0 :: some (.ref a) :: t) (.ref a :: ST) M h := r_aload_n mt_188 dL_law_641 rfl
theorem e188_642 : Rn X d 188 642 (some (.ref a) :: t) ST M h = Rn X d 188 643 (some (.ref a) :: t) (.ref a :: ST) M h := r_aload_n mt_188 dL_law_642 rfl
theorem e188_643 : Rn X d 188 643 (l0 :: l1 :: l2 :: l3 :: some (.int x) :: t) ST M h = Rn X d 188 645 (l0 :: l1 :: l2 :: l3 :: some (.int x) :: t) (.int x :: ST) M h := r_iload mt_188 dL_law_643 rfl
theorem e188_645 : Rn X d 188 645 LS ST M h = Rn X d 188 646 LS (.int (zN 1) :: ST) M h := r_iconst mt_188 dL_law_645 c_ic1
theorem e188_646 : Rn X d 188 646 LS (.int y :: .int x :: ST) M h = Rn X d 188 647 LS (.int (x + y) :: ST) M h := r_iadd mt_188 dL_law_646
theorem e188_647 : Rn X d 188 647 LS (.int x :: .ref a :: ST) M h = q_ld X (M a) a x d 188 648 LS ST M h := s_iald mt_188 dL_law_647
theorem e188_648 : Rn X d 188 648 (some (.ref a) :: t) ST M h = Rn X d 188 649 (some (.ref a) :: t) (.ref a :: ST) M h := r_aload_n mt_188 dL_law_648 rfl
theorem e188_649 : Rn X d 188 649 (l0 :: l1 :: l2 :: l3 :: some (.int x) :: t) ST M h = Rn X d 188 651 (l0 :: l1 :: l2 :: l3 :: some (.int x) :: t) (.int x :: ST) M h := r_iload mt_188 dL_law_649 rfl
theorem e188_651 : Rn X d 188 651 LS ST M h = Rn X d 188 652 LS (.int (zN 2) :: ST) M h := r_iconst mt_188 dL_law_651 c_ic2
theorem e188_652 : Rn X d 188 652 LS (.int y :: .int x :: ST) M h = Rn X d 188 653 LS (.int (x + y) :: ST) M h := r_iadd mt_188 dL_law_652
theorem e188_653 : Rn X d 188 653 LS (.int x :: .ref a :: ST) M h = q_ld X (M a) a x d 188 654 LS ST M h := s_iald mt_188 dL_law_653
theorem e188_654 : Rn X d 188 654 (l0 :: l1 :: l2 :: some (.ref a) :: t) ST M h = Rn X d 188 655 (l0 :: l1 :: l2 :: some (.ref a) :: t) (.ref a :: ST) M h := r_aload_n mt_188 dL_law_654 rfl
theorem e188_655 (hcs : Nat.ble (j_cs ST) 8 = true) : Rn X (d + 1) 188 655 LS (.ref b :: .int y :: .int x :: .ref a :: ST) M h = q_k X (Rn X d 178 0 [some (.ref a), some (.int x), some (.int y), some (.ref b), none] [] M (j_h0 h)) h (d + 1) 188 658 LS ST := s_callS (Or.inr (Or.inl rfl)) mt_188 dL_law_655 cl_8_109 mt_178 rfl (Nat.le_add_left _ _) rfl rfl rfl rfl hcs
theorem e188_658 (ho : j_one l4 = true) : Rn X d 188 658 (l0 :: l1 :: l2 :: l3 :: l4 :: l5 :: t) (.int x :: ST) M h = Rn X d 188 660 (l0 :: l1 :: l2 :: l3 :: l4 :: some (.int x) :: t) ST M h := r_istore mt_188 dL_law_658 (by show 5 < _; simp only [List.length_cons]; omega) ho rfl
theorem e188_660 : Rn X d 188 660 (l0 :: l1 :: some (.ref a) :: t) ST M h = Rn X d 188 661 (l0 :: l1 :: some (.ref a) :: t) (.ref a :: ST) M h := r_aload_n mt_188 dL_law_660 rfl
theorem e188_661 : Rn X d 188 661 (some (.ref a) :: t) ST M h = Rn X d 188 662 (some (.ref a) :: t) (.ref a :: ST) M h := r_aload_n mt_188 dL_law_661 rfl
theorem e188_662 : Rn X d 188 662 (l0 :: l1 :: l2 :: l3 :: some (.int x) :: t) ST M h = Rn X d 188 664 (l0 :: l1 :: l2 :: l3 :: some (.int x) :: t) (.int x :: ST) M h := r_iload mt_188 dL_law_662 rfl
theorem e188_664 : Rn X d 188 664 LS ST M h = Rn X d 188 665 LS (.int (zN 1) :: ST) M h := r_iconst mt_188 dL_law_664 c_ic1
theorem e188_665 : Rn X d 188 665 LS (.int y :: .int x :: ST) M h = Rn X d 188 666 LS (.int (x + y) :: ST) M h := r_iadd mt_188 dL_law_665
theorem e188_666 : Rn X d 188 666 LS (.int x :: .ref a :: ST) M h = q_ld X (M a) a x d 188 667 LS ST M h := s_iald mt_188 dL_law_666
theorem e188_667 : Rn X d 188 667 (some (.ref a) :: t) ST M h = Rn X d 188 668 (some (.ref a) :: t) (.ref a :: ST) M h := r_aload_n mt_188 dL_law_667 rfl
theorem e188_668 : Rn X d 188 668 (l0 :: l1 :: l2 :: l3 :: some (.int x) :: t) ST M h = Rn X d 188 670 (l0 :: l1 :: l2 :: l3 :: some (.int x) :: t) (.int x :: ST) M h := r_iload mt_188 dL_law_668 rfl
theorem e188_670 : Rn X d 188 670 LS ST M h = Rn X d 188 671 LS (.int (zN 2) :: ST) M h := r_iconst mt_188 dL_law_670 c_ic2
theorem e188_671 : Rn X d 188 671 LS (.int y :: .int x :: ST) M h = Rn X d 188 672 LS (.int (x + y) :: ST) M h := r_iadd mt_188 dL_law_671
theorem e188_672 : Rn X d 188 672 LS (.int x :: .ref a :: ST) M h = q_ld X (M a) a x d 188 673 LS ST M h := s_iald mt_188 dL_law_672
theorem e188_673 (hcs : Nat.ble (j_cs ST) 8 = true) : Rn X (d + 1) 188 673 LS (.int y :: .int x :: .ref a :: ST) M h = j_rc (M a) 5 (q_k X (Rn X d 137 0 [some (.ref a), some (.int x), some (.int y)] [] M (j_h0 h)) h (d + 1) 188 676 LS ST) := s_callV mt_188 dL_law_673 cl_8_111 mt_137 rfl rfl (Nat.le_add_left _ _) rfl rfl rfl rfl hcs
theorem e188_676 (ho : j_one l5 = true) : Rn X d 188 676 (l0 :: l1 :: l2 :: l3 :: l4 :: l5 :: l6 :: t) (.int x :: ST) M h = Rn X d 188 678 (l0 :: l1 :: l2 :: l3 :: l4 :: l5 :: some (.int x) :: t) ST M h := r_istore mt_188 dL_law_676 (by show 6 < _; simp only [List.length_cons]; omega) ho rfl
theorem e188_678 : Rn X d 188 678 (l0 :: l1 :: some (.ref a) :: t) ST M h = Rn X d 188 679 (l0 :: l1 :: some (.ref a) :: t) (.ref a :: ST) M h := r_aload_n mt_188 dL_law_678 rfl
theorem e188_679 (hcs : Nat.ble (j_cs ST) 8 = true) : Rn X (d + 1) 188 679 LS (.ref a :: ST) M h = j_rc (M a) 5 (q_k X (Rn X d 101 0 [some (.ref a)] [] M (j_h0 h)) h (d + 1) 188 682 LS ST) := s_callV mt_188 dL_law_679 cl_8_81 mt_101 rfl rfl (Nat.le_add_left _ _) rfl rfl rfl rfl hcs
theorem e188_682 : Rn X d 188 682 (l0 :: l1 :: l2 :: l3 :: l4 :: some (.int x) :: t) ST M h = Rn X d 188 684 (l0 :: l1 :: l2 :: l3 :: l4 :: some (.int x) :: t) (.int x :: ST) M h := r_iload mt_188 dL_law_682 rfl
theorem e188_684 : Rn X d 188 684 LS (.int y :: .int x :: ST) M h = q_eq X x y d 188 689 687 LS ST M h := s_iceq mt_188 dL_law_684 rfl
theorem e188_687 : Rn X d 188 687 LS ST M h = Rn X d 188 688 LS (.int (zN 0) :: ST) M h := r_iconst mt_188 dL_law_687 c_ic0
theorem e188_688 {v : Nat} (h0 : v < 2) : Rn X d 188 688 LS ([.int (zN v)]) M h = some (.inl (some (.int (zN v))), M, h) := s_zret mt_188 dL_law_688 rfl h0
theorem e188_689 : Rn X d 188 689 (l0 :: l1 :: l2 :: l3 :: l4 :: some (.int x) :: t) ST M h = Rn X d 188 691 (l0 :: l1 :: l2 :: l3 :: l4 :: some (.int x) :: t) (.int x :: ST) M h := r_iload mt_188 dL_law_689 rfl
theorem e188_691 : Rn X d 188 691 LS (.int x :: ST) M h = q_eq X x (zN 0) d 188 694 706 LS ST M h := s_ifne mt_188 dL_law_691 rfl
theorem e188_694 : Rn X d 188 694 (l0 :: l1 :: l2 :: some (.ref a) :: t) ST M h = Rn X d 188 695 (l0 :: l1 :: l2 :: some (.ref a) :: t) (.ref a :: ST) M h := r_aload_n mt_188 dL_law_694 rfl
theorem e188_695 : Rn X d 188 695 LS ST M h = Rn X d 188 696 LS (.int (zN 0) :: ST) M h := r_iconst mt_188 dL_law_695 c_ic0
theorem e188_696 : Rn X d 188 696 LS (.int x :: .ref a :: ST) M h = q_lJ X (M a) x d 188 697 LS ST M h := s_lald mt_188 dL_law_696
theorem e188_697 : Rn X d 188 697 (l0 :: l1 :: l2 :: l3 :: l4 :: l5 :: some (.int x) :: t) ST M h = Rn X d 188 699 (l0 :: l1 :: l2 :: l3 :: l4 :: l5 :: some (.int x) :: t) (.int x :: ST) M h := r_iload mt_188 dL_law_697 rfl
theorem e188_699 : Rn X d 188 699 LS (.int x :: ST) M h = Rn X d 188 700 LS (.long x.toInt64 :: ST) M h := r_i2l mt_188 dL_law_699
theorem e188_700 : Rn X d 188 700 LS (.long q :: .long p :: ST) M h = Rn X d 188 701 LS (.int (lg_cmp p q) :: ST) M h := r_lcmp mt_188 dL_law_700
theorem e188_701 : Rn X d 188 701 LS (.int x :: ST) M h = q_eq X x (zN 0) d 188 706 704 LS ST M h := s_ifeq mt_188 dL_law_701 rfl
theorem e188_704 : Rn X d 188 704 LS ST M h = Rn X d 188 705 LS (.int (zN 0) :: ST) M h := r_iconst mt_188 dL_law_704 c_ic0
theorem e188_705 {v : Nat} (h0 : v < 2) : Rn X d 188 705 LS ([.int (zN v)]) M h = some (.inl (some (.int (zN v))), M, h) := s_zret mt_188 dL_law_705 rfl h0
theorem e188_706 : Rn X d 188 706 LS ST M h = Rn X d 188 1344 LS ST M h := r_goto mt_188 dL_law_706 rfl
theorem e188_709 : Rn X d 188 709 (l0 :: some (.ref a) :: t) ST M h = Rn X d 188 710 (l0 :: some (.ref a) :: t) (.ref a :: ST) M h := r_aload_n mt_188 dL_law_709 rfl
theorem e188_710 : Rn X d 188 710 (some (.ref a) :: t) ST M h = Rn X d 188 711 (some (.ref a) :: t) (.ref a :: ST) M h := r_aload_n mt_188 dL_law_710 rfl
theorem e188_711 : Rn X d 188 711 (l0 :: l1 :: l2 :: l3 :: some (.int x) :: t) ST M h = Rn X d 188 713 (l0 :: l1 :: l2 :: l3 :: some (.int x) :: t) (.int x :: ST) M h := r_iload mt_188 dL_law_711 rfl
theorem e188_713 : Rn X d 188 713 LS ST M h = Rn X d 188 714 LS (.int (zN 1) :: ST) M h := r_iconst mt_188 dL_law_713 c_ic1
theorem e188_714 : Rn X d 188 714 LS (.int y :: .int x :: ST) M h = Rn X d 188 715 LS (.int (x + y) :: ST) M h := r_iadd mt_188 dL_law_714
theorem e188_715 : Rn X d 188 715 LS (.int x :: .ref a :: ST) M h = q_ld X (M a) a x d 188 716 LS ST M h := s_iald mt_188 dL_law_715
theorem e188_716 : Rn X d 188 716 (some (.ref a) :: t) ST M h = Rn X d 188 717 (some (.ref a) :: t) (.ref a :: ST) M h := r_aload_n mt_188 dL_law_716 rfl
theorem e188_717 : Rn X d 188 717 (l0 :: l1 :: l2 :: l3 :: some (.int x) :: t) ST M h = Rn X d 188 719 (l0 :: l1 :: l2 :: l3 :: some (.int x) :: t) (.int x :: ST) M h := r_iload mt_188 dL_law_717 rfl
theorem e188_719 : Rn X d 188 719 LS ST M h = Rn X d 188 720 LS (.int (zN 2) :: ST) M h := r_iconst mt_188 dL_law_719 c_ic2
theorem e188_720 : Rn X d 188 720 LS (.int y :: .int x :: ST) M h = Rn X d 188 721 LS (.int (x + y) :: ST) M h := r_iadd mt_188 dL_law_720
theorem e188_721 : Rn X d 188 721 LS (.int x :: .ref a :: ST) M h = q_ld X (M a) a x d 188 722 LS ST M h := s_iald mt_188 dL_law_721
theorem e188_722 : Rn X d 188 722 (l0 :: l1 :: l2 :: some (.ref a) :: t) ST M h = Rn X d 188 723 (l0 :: l1 :: l2 :: some (.ref a) :: t) (.ref a :: ST) M h := r_aload_n mt_188 dL_law_722 rfl
theorem e188_723 (hcs : Nat.ble (j_cs ST) 8 = true) : Rn X (d + 1) 188 723 LS (.ref b :: .int y :: .int x :: .ref a :: ST) M h = q_k X (Rn X d 179 0 [some (.ref a), some (.int x), some (.int y), some (.ref b), none] [] M (j_h0 h)) h (d + 1) 188 726 LS ST := s_callS (Or.inr (Or.inl rfl)) mt_188 dL_law_723 cl_8_112 mt_179 rfl (Nat.le_add_left _ _) rfl rfl rfl rfl hcs
theorem e188_726 (ho : j_one l4 = true) : Rn X d 188 726 (l0 :: l1 :: l2 :: l3 :: l4 :: l5 :: t) (.int x :: ST) M h = Rn X d 188 728 (l0 :: l1 :: l2 :: l3 :: l4 :: some (.int x) :: t) ST M h := r_istore mt_188 dL_law_726 (by show 5 < _; simp only [List.length_cons]; omega) ho rfl
theorem e188_728 : Rn X d 188 728 (l0 :: l1 :: some (.ref a) :: t) ST M h = Rn X d 188 729 (l0 :: l1 :: some (.ref a) :: t) (.ref a :: ST) M h := r_aload_n mt_188 dL_law_728 rfl
theorem e188_729 : Rn X d 188 729 (some (.ref a) :: t) ST M h = Rn X d 188 730 (some (.ref a) :: t) (.ref a :: ST) M h := r_aload_n mt_188 dL_law_729 rfl
theorem e188_730 : Rn X d 188 730 (l0 :: l1 :: l2 :: l3 :: some (.int x) :: t) ST M h = Rn X d 188 732 (l0 :: l1 :: l2 :: l3 :: some (.int x) :: t) (.int x :: ST) M h := r_iload mt_188 dL_law_730 rfl
theorem e188_732 : Rn X d 188 732 LS ST M h = Rn X d 188 733 LS (.int (zN 1) :: ST) M h := r_iconst mt_188 dL_law_732 c_ic1
theorem e188_733 : Rn X d 188 733 LS (.int y :: .int x :: ST) M h = Rn X d 188 734 LS (.int (x + y) :: ST) M h := r_iadd mt_188 dL_law_733
theorem e188_734 : Rn X d 188 734 LS (.int x :: .ref a :: ST) M h = q_ld X (M a) a x d 188 735 LS ST M h := s_iald mt_188 dL_law_734
theorem e188_735 : Rn X d 188 735 (some (.ref a) :: t) ST M h = Rn X d 188 736 (some (.ref a) :: t) (.ref a :: ST) M h := r_aload_n mt_188 dL_law_735 rfl
theorem e188_736 : Rn X d 188 736 (l0 :: l1 :: l2 :: l3 :: some (.int x) :: t) ST M h = Rn X d 188 738 (l0 :: l1 :: l2 :: l3 :: some (.int x) :: t) (.int x :: ST) M h := r_iload mt_188 dL_law_736 rfl
theorem e188_738 : Rn X d 188 738 LS ST M h = Rn X d 188 739 LS (.int (zN 2) :: ST) M h := r_iconst mt_188 dL_law_738 c_ic2
theorem e188_739 : Rn X d 188 739 LS (.int y :: .int x :: ST) M h = Rn X d 188 740 LS (.int (x + y) :: ST) M h := r_iadd mt_188 dL_law_739
theorem e188_740 : Rn X d 188 740 LS (.int x :: .ref a :: ST) M h = q_ld X (M a) a x d 188 741 LS ST M h := s_iald mt_188 dL_law_740
theorem e188_741 (hcs : Nat.ble (j_cs ST) 8 = true) : Rn X (d + 1) 188 741 LS (.int y :: .int x :: .ref a :: ST) M h = j_rc (M a) 5 (q_k X (Rn X d 139 0 [some (.ref a), some (.int x), some (.int y)] [] M (j_h0 h)) h (d + 1) 188 744 LS ST) := s_callV mt_188 dL_law_741 cl_8_114 mt_139 rfl rfl (Nat.le_add_left _ _) rfl rfl rfl rfl hcs
theorem e188_744 (ho : j_one l5 = true) : Rn X d 188 744 (l0 :: l1 :: l2 :: l3 :: l4 :: l5 :: l6 :: t) (.int x :: ST) M h = Rn X d 188 746 (l0 :: l1 :: l2 :: l3 :: l4 :: l5 :: some (.int x) :: t) ST M h := r_istore mt_188 dL_law_744 (by show 6 < _; simp only [List.length_cons]; omega) ho rfl
theorem e188_746 : Rn X d 188 746 (l0 :: l1 :: some (.ref a) :: t) ST M h = Rn X d 188 747 (l0 :: l1 :: some (.ref a) :: t) (.ref a :: ST) M h := r_aload_n mt_188 dL_law_746 rfl
theorem e188_747 (hcs : Nat.ble (j_cs ST) 8 = true) : Rn X (d + 1) 188 747 LS (.ref a :: ST) M h = j_rc (M a) 5 (q_k X (Rn X d 101 0 [some (.ref a)] [] M (j_h0 h)) h (d + 1) 188 750 LS ST) := s_callV mt_188 dL_law_747 cl_8_81 mt_101 rfl rfl (Nat.le_add_left _ _) rfl rfl rfl rfl hcs
theorem e188_750 : Rn X d 188 750 (l0 :: l1 :: l2 :: l3 :: l4 :: some (.int x) :: t) ST M h = Rn X d 188 752 (l0 :: l1 :: l2 :: l3 :: l4 :: some (.int x) :: t) (.int x :: ST) M h := r_iload mt_188 dL_law_750 rfl
theorem e188_752 : Rn X d 188 752 LS (.int y :: .int x :: ST) M h = q_eq X x y d 188 757 755 LS ST M h := s_iceq mt_188 dL_law_752 rfl
theorem e188_755 : Rn X d 188 755 LS ST M h = Rn X d 188 756 LS (.int (zN 0) :: ST) M h := r_iconst mt_188 dL_law_755 c_ic0
theorem e188_756 {v : Nat} (h0 : v < 2) : Rn X d 188 756 LS ([.int (zN v)]) M h = some (.inl (some (.int (zN v))), M, h) := s_zret mt_188 dL_law_756 rfl h0
theorem e188_757 : Rn X d 188 757 (l0 :: l1 :: l2 :: l3 :: l4 :: some (.int x) :: t) ST M h = Rn X d 188 759 (l0 :: l1 :: l2 :: l3 :: l4 :: some (.int x) :: t) (.int x :: ST) M h := r_iload mt_188 dL_law_757 rfl
theorem e188_759 : Rn X d 188 759 LS (.int x :: ST) M h = q_eq X x (zN 0) d 188 762 774 LS ST M h := s_ifne mt_188 dL_law_759 rfl
theorem e188_762 : Rn X d 188 762 (l0 :: l1 :: l2 :: some (.ref a) :: t) ST M h = Rn X d 188 763 (l0 :: l1 :: l2 :: some (.ref a) :: t) (.ref a :: ST) M h := r_aload_n mt_188 dL_law_762 rfl
theorem e188_763 : Rn X d 188 763 LS ST M h = Rn X d 188 764 LS (.int (zN 0) :: ST) M h := r_iconst mt_188 dL_law_763 c_ic0
theorem e188_764 : Rn X d 188 764 LS (.int x :: .ref a :: ST) M h = q_lJ X (M a) x d 188 765 LS ST M h := s_lald mt_188 dL_law_764
theorem e188_765 : Rn X d 188 765 (l0 :: l1 :: l2 :: l3 :: l4 :: l5 :: some (.int x) :: t) ST M h = Rn X d 188 767 (l0 :: l1 :: l2 :: l3 :: l4 :: l5 :: some (.int x) :: t) (.int x :: ST) M h := r_iload mt_188 dL_law_765 rfl
theorem e188_767 : Rn X d 188 767 LS (.int x :: ST) M h = Rn X d 188 768 LS (.long x.toInt64 :: ST) M h := r_i2l mt_188 dL_law_767
theorem e188_768 : Rn X d 188 768 LS (.long q :: .long p :: ST) M h = Rn X d 188 769 LS (.int (lg_cmp p q) :: ST) M h := r_lcmp mt_188 dL_law_768
theorem e188_769 : Rn X d 188 769 LS (.int x :: ST) M h = q_eq X x (zN 0) d 188 774 772 LS ST M h := s_ifeq mt_188 dL_law_769 rfl
theorem e188_772 : Rn X d 188 772 LS ST M h = Rn X d 188 773 LS (.int (zN 0) :: ST) M h := r_iconst mt_188 dL_law_772 c_ic0
theorem e188_773 {v : Nat} (h0 : v < 2) : Rn X d 188 773 LS ([.int (zN v)]) M h = some (.inl (some (.int (zN v))), M, h) := s_zret mt_188 dL_law_773 rfl h0
theorem e188_774 : Rn X d 188 774 LS ST M h = Rn X d 188 1344 LS ST M h := r_goto mt_188 dL_law_774 rfl
theorem e188_777 : Rn X d 188 777 (l0 :: some (.ref a) :: t) ST M h = Rn X d 188 778 (l0 :: some (.ref a) :: t) (.ref a :: ST) M h := r_aload_n mt_188 dL_law_777 rfl
theorem e188_778 : Rn X d 188 778 (some (.ref a) :: t) ST M h = Rn X d 188 779 (some (.ref a) :: t) (.ref a :: ST) M h := r_aload_n mt_188 dL_law_778 rfl
theorem e188_779 : Rn X d 188 779 (l0 :: l1 :: l2 :: l3 :: some (.int x) :: t) ST M h = Rn X d 188 781 (l0 :: l1 :: l2 :: l3 :: some (.int x) :: t) (.int x :: ST) M h := r_iload mt_188 dL_law_779 rfl
theorem e188_781 : Rn X d 188 781 LS ST M h = Rn X d 188 782 LS (.int (zN 1) :: ST) M h := r_iconst mt_188 dL_law_781 c_ic1
theorem e188_782 : Rn X d 188 782 LS (.int y :: .int x :: ST) M h = Rn X d 188 783 LS (.int (x + y) :: ST) M h := r_iadd mt_188 dL_law_782
theorem e188_783 : Rn X d 188 783 LS (.int x :: .ref a :: ST) M h = q_ld X (M a) a x d 188 784 LS ST M h := s_iald mt_188 dL_law_783
theorem e188_784 : Rn X d 188 784 (some (.ref a) :: t) ST M h = Rn X d 188 785 (some (.ref a) :: t) (.ref a :: ST) M h := r_aload_n mt_188 dL_law_784 rfl
theorem e188_785 : Rn X d 188 785 (l0 :: l1 :: l2 :: l3 :: some (.int x) :: t) ST M h = Rn X d 188 787 (l0 :: l1 :: l2 :: l3 :: some (.int x) :: t) (.int x :: ST) M h := r_iload mt_188 dL_law_785 rfl
theorem e188_787 : Rn X d 188 787 LS ST M h = Rn X d 188 788 LS (.int (zN 2) :: ST) M h := r_iconst mt_188 dL_law_787 c_ic2
theorem e188_788 : Rn X d 188 788 LS (.int y :: .int x :: ST) M h = Rn X d 188 789 LS (.int (x + y) :: ST) M h := r_iadd mt_188 dL_law_788
theorem e188_789 : Rn X d 188 789 LS (.int x :: .ref a :: ST) M h = q_ld X (M a) a x d 188 790 LS ST M h := s_iald mt_188 dL_law_789
theorem e188_790 : Rn X d 188 790 (l0 :: l1 :: l2 :: some (.ref a) :: t) ST M h = Rn X d 188 791 (l0 :: l1 :: l2 :: some (.ref a) :: t) (.ref a :: ST) M h := r_aload_n mt_188 dL_law_790 rfl
theorem e188_791 (hcs : Nat.ble (j_cs ST) 8 = true) : Rn X (d + 1) 188 791 LS (.ref b :: .int y :: .int x :: .ref a :: ST) M h = q_k X (Rn X d 180 0 [some (.ref a), some (.int x), some (.int y), some (.ref b), none] [] M (j_h0 h)) h (d + 1) 188 794 LS ST := s_callS (Or.inr (Or.inl rfl)) mt_188 dL_law_791 cl_8_115 mt_180 rfl (Nat.le_add_left _ _) rfl rfl rfl rfl hcs
theorem e188_794 (ho : j_one l4 = true) : Rn X d 188 794 (l0 :: l1 :: l2 :: l3 :: l4 :: l5 :: t) (.int x :: ST) M h = Rn X d 188 796 (l0 :: l1 :: l2 :: l3 :: l4 :: some (.int x) :: t) ST M h := r_istore mt_188 dL_law_794 (by show 5 < _; simp only [List.length_cons]; omega) ho rfl
theorem e188_796 : Rn X d 188 796 (l0 :: l1 :: some (.ref a) :: t) ST M h = Rn X d 188 797 (l0 :: l1 :: some (.ref a) :: t) (.ref a :: ST) M h := r_aload_n mt_188 dL_law_796 rfl
theorem e188_797 : Rn X d 188 797 (some (.ref a) :: t) ST M h = Rn X d 188 798 (some (.ref a) :: t) (.ref a :: ST) M h := r_aload_n mt_188 dL_law_797 rfl
theorem e188_798 : Rn X d 188 798 (l0 :: l1 :: l2 :: l3 :: some (.int x) :: t) ST M h = Rn X d 188 800 (l0 :: l1 :: l2 :: l3 :: some (.int x) :: t) (.int x :: ST) M h := r_iload mt_188 dL_law_798 rfl
theorem e188_800 : Rn X d 188 800 LS ST M h = Rn X d 188 801 LS (.int (zN 1) :: ST) M h := r_iconst mt_188 dL_law_800 c_ic1
theorem e188_801 : Rn X d 188 801 LS (.int y :: .int x :: ST) M h = Rn X d 188 802 LS (.int (x + y) :: ST) M h := r_iadd mt_188 dL_law_801
theorem e188_802 : Rn X d 188 802 LS (.int x :: .ref a :: ST) M h = q_ld X (M a) a x d 188 803 LS ST M h := s_iald mt_188 dL_law_802
theorem e188_803 : Rn X d 188 803 (some (.ref a) :: t) ST M h = Rn X d 188 804 (some (.ref a) :: t) (.ref a :: ST) M h := r_aload_n mt_188 dL_law_803 rfl
theorem e188_804 : Rn X d 188 804 (l0 :: l1 :: l2 :: l3 :: some (.int x) :: t) ST M h = Rn X d 188 806 (l0 :: l1 :: l2 :: l3 :: some (.int x) :: t) (.int x :: ST) M h := r_iload mt_188 dL_law_804 rfl
theorem e188_806 : Rn X d 188 806 LS ST M h = Rn X d 188 807 LS (.int (zN 2) :: ST) M h := r_iconst mt_188 dL_law_806 c_ic2
theorem e188_807 : Rn X d 188 807 LS (.int y :: .int x :: ST) M h = Rn X d 188 808 LS (.int (x + y) :: ST) M h := r_iadd mt_188 dL_law_807
theorem e188_808 : Rn X d 188 808 LS (.int x :: .ref a :: ST) M h = q_ld X (M a) a x d 188 809 LS ST M h := s_iald mt_188 dL_law_808
theorem e188_809 (hcs : Nat.ble (j_cs ST) 8 = true) : Rn X (d + 1) 188 809 LS (.int y :: .int x :: .ref a :: ST) M h = j_rc (M a) 5 (q_k X (Rn X d 140 0 [some (.ref a), some (.int x), some (.int y)] [] M (j_h0 h)) h (d + 1) 188 812 LS ST) := s_callV mt_188 dL_law_809 cl_8_117 mt_140 rfl rfl (Nat.le_add_left _ _) rfl rfl rfl rfl hcs
theorem e188_812 (ho : j_one l5 = true) : Rn X d 188 812 (l0 :: l1 :: l2 :: l3 :: l4 :: l5 :: l6 :: t) (.int x :: ST) M h = Rn X d 188 814 (l0 :: l1 :: l2 :: l3 :: l4 :: l5 :: some (.int x) :: t) ST M h := r_istore mt_188 dL_law_812 (by show 6 < _; simp only [List.length_cons]; omega) ho rfl
theorem e188_814 : Rn X d 188 814 (l0 :: l1 :: some (.ref a) :: t) ST M h = Rn X d 188 815 (l0 :: l1 :: some (.ref a) :: t) (.ref a :: ST) M h := r_aload_n mt_188 dL_law_814 rfl
theorem e188_815 (hcs : Nat.ble (j_cs ST) 8 = true) : Rn X (d + 1) 188 815 LS (.ref a :: ST) M h = j_rc (M a) 5 (q_k X (Rn X d 101 0 [some (.ref a)] [] M (j_h0 h)) h (d + 1) 188 818 LS ST) := s_callV mt_188 dL_law_815 cl_8_81 mt_101 rfl rfl (Nat.le_add_left _ _) rfl rfl rfl rfl hcs
theorem e188_818 : Rn X d 188 818 (l0 :: l1 :: l2 :: l3 :: l4 :: some (.int x) :: t) ST M h = Rn X d 188 820 (l0 :: l1 :: l2 :: l3 :: l4 :: some (.int x) :: t) (.int x :: ST) M h := r_iload mt_188 dL_law_818 rfl
theorem e188_820 : Rn X d 188 820 LS (.int y :: .int x :: ST) M h = q_eq X x y d 188 825 823 LS ST M h := s_iceq mt_188 dL_law_820 rfl
theorem e188_823 : Rn X d 188 823 LS ST M h = Rn X d 188 824 LS (.int (zN 0) :: ST) M h := r_iconst mt_188 dL_law_823 c_ic0
theorem e188_824 {v : Nat} (h0 : v < 2) : Rn X d 188 824 LS ([.int (zN v)]) M h = some (.inl (some (.int (zN v))), M, h) := s_zret mt_188 dL_law_824 rfl h0
theorem e188_825 : Rn X d 188 825 (l0 :: l1 :: l2 :: l3 :: l4 :: some (.int x) :: t) ST M h = Rn X d 188 827 (l0 :: l1 :: l2 :: l3 :: l4 :: some (.int x) :: t) (.int x :: ST) M h := r_iload mt_188 dL_law_825 rfl
theorem e188_827 : Rn X d 188 827 LS (.int x :: ST) M h = q_eq X x (zN 0) d 188 830 842 LS ST M h := s_ifne mt_188 dL_law_827 rfl
theorem e188_830 : Rn X d 188 830 (l0 :: l1 :: l2 :: some (.ref a) :: t) ST M h = Rn X d 188 831 (l0 :: l1 :: l2 :: some (.ref a) :: t) (.ref a :: ST) M h := r_aload_n mt_188 dL_law_830 rfl
theorem e188_831 : Rn X d 188 831 LS ST M h = Rn X d 188 832 LS (.int (zN 0) :: ST) M h := r_iconst mt_188 dL_law_831 c_ic0
theorem e188_832 : Rn X d 188 832 LS (.int x :: .ref a :: ST) M h = q_lJ X (M a) x d 188 833 LS ST M h := s_lald mt_188 dL_law_832
theorem e188_833 : Rn X d 188 833 (l0 :: l1 :: l2 :: l3 :: l4 :: l5 :: some (.int x) :: t) ST M h = Rn X d 188 835 (l0 :: l1 :: l2 :: l3 :: l4 :: l5 :: some (.int x) :: t) (.int x :: ST) M h := r_iload mt_188 dL_law_833 rfl
theorem e188_835 : Rn X d 188 835 LS (.int x :: ST) M h = Rn X d 188 836 LS (.long x.toInt64 :: ST) M h := r_i2l mt_188 dL_law_835
theorem e188_836 : Rn X d 188 836 LS (.long q :: .long p :: ST) M h = Rn X d 188 837 LS (.int (lg_cmp p q) :: ST) M h := r_lcmp mt_188 dL_law_836
theorem e188_837 : Rn X d 188 837 LS (.int x :: ST) M h = q_eq X x (zN 0) d 188 842 840 LS ST M h := s_ifeq mt_188 dL_law_837 rfl
theorem e188_840 : Rn X d 188 840 LS ST M h = Rn X d 188 841 LS (.int (zN 0) :: ST) M h := r_iconst mt_188 dL_law_840 c_ic0
theorem e188_841 {v : Nat} (h0 : v < 2) : Rn X d 188 841 LS ([.int (zN v)]) M h = some (.inl (some (.int (zN v))), M, h) := s_zret mt_188 dL_law_841 rfl h0
theorem e188_842 : Rn X d 188 842 LS ST M h = Rn X d 188 1344 LS ST M h := r_goto mt_188 dL_law_842 rfl
theorem e188_845 : Rn X d 188 845 (l0 :: some (.ref a) :: t) ST M h = Rn X d 188 846 (l0 :: some (.ref a) :: t) (.ref a :: ST) M h := r_aload_n mt_188 dL_law_845 rfl
theorem e188_846 : Rn X d 188 846 (some (.ref a) :: t) ST M h = Rn X d 188 847 (some (.ref a) :: t) (.ref a :: ST) M h := r_aload_n mt_188 dL_law_846 rfl
theorem e188_847 : Rn X d 188 847 (l0 :: l1 :: l2 :: l3 :: some (.int x) :: t) ST M h = Rn X d 188 849 (l0 :: l1 :: l2 :: l3 :: some (.int x) :: t) (.int x :: ST) M h := r_iload mt_188 dL_law_847 rfl
theorem e188_849 : Rn X d 188 849 LS ST M h = Rn X d 188 850 LS (.int (zN 1) :: ST) M h := r_iconst mt_188 dL_law_849 c_ic1
theorem e188_850 : Rn X d 188 850 LS (.int y :: .int x :: ST) M h = Rn X d 188 851 LS (.int (x + y) :: ST) M h := r_iadd mt_188 dL_law_850
theorem e188_851 : Rn X d 188 851 LS (.int x :: .ref a :: ST) M h = q_ld X (M a) a x d 188 852 LS ST M h := s_iald mt_188 dL_law_851
theorem e188_852 : Rn X d 188 852 (l0 :: l1 :: l2 :: some (.ref a) :: t) ST M h = Rn X d 188 853 (l0 :: l1 :: l2 :: some (.ref a) :: t) (.ref a :: ST) M h := r_aload_n mt_188 dL_law_852 rfl
theorem e188_853 (hcs : Nat.ble (j_cs ST) 8 = true) : Rn X (d + 1) 188 853 LS (.ref b :: .int x :: .ref a :: ST) M h = q_k X (Rn X d 181 0 [some (.ref a), some (.int x), some (.ref b), none] [] M (j_h0 h)) h (d + 1) 188 856 LS ST := s_callS (Or.inr (Or.inl rfl)) mt_188 dL_law_853 cl_8_118 mt_181 rfl (Nat.le_add_left _ _) rfl rfl rfl rfl hcs
theorem e188_856 (ho : j_one l4 = true) : Rn X d 188 856 (l0 :: l1 :: l2 :: l3 :: l4 :: l5 :: t) (.int x :: ST) M h = Rn X d 188 858 (l0 :: l1 :: l2 :: l3 :: l4 :: some (.int x) :: t) ST M h := r_istore mt_188 dL_law_856 (by show 5 < _; simp only [List.length_cons]; omega) ho rfl
theorem e188_858 : Rn X d 188 858 (l0 :: l1 :: some (.ref a) :: t) ST M h = Rn X d 188 859 (l0 :: l1 :: some (.ref a) :: t) (.ref a :: ST) M h := r_aload_n mt_188 dL_law_858 rfl
theorem e188_859 : Rn X d 188 859 (some (.ref a) :: t) ST M h = Rn X d 188 860 (some (.ref a) :: t) (.ref a :: ST) M h := r_aload_n mt_188 dL_law_859 rfl
theorem e188_860 : Rn X d 188 860 (l0 :: l1 :: l2 :: l3 :: some (.int x) :: t) ST M h = Rn X d 188 862 (l0 :: l1 :: l2 :: l3 :: some (.int x) :: t) (.int x :: ST) M h := r_iload mt_188 dL_law_860 rfl
theorem e188_862 : Rn X d 188 862 LS ST M h = Rn X d 188 863 LS (.int (zN 1) :: ST) M h := r_iconst mt_188 dL_law_862 c_ic1
theorem e188_863 : Rn X d 188 863 LS (.int y :: .int x :: ST) M h = Rn X d 188 864 LS (.int (x + y) :: ST) M h := r_iadd mt_188 dL_law_863
theorem e188_864 : Rn X d 188 864 LS (.int x :: .ref a :: ST) M h = q_ld X (M a) a x d 188 865 LS ST M h := s_iald mt_188 dL_law_864
theorem e188_865 (hcs : Nat.ble (j_cs ST) 8 = true) : Rn X (d + 1) 188 865 LS (.int x :: .ref a :: ST) M h = j_rc (M a) 5 (q_k X (Rn X d 143 0 [some (.ref a), some (.int x)] [] M (j_h0 h)) h (d + 1) 188 868 LS ST) := s_callV mt_188 dL_law_865 cl_8_120 mt_143 rfl rfl (Nat.le_add_left _ _) rfl rfl rfl rfl hcs
theorem e188_868 (ho : j_one l5 = true) : Rn X d 188 868 (l0 :: l1 :: l2 :: l3 :: l4 :: l5 :: l6 :: t) (.int x :: ST) M h = Rn X d 188 870 (l0 :: l1 :: l2 :: l3 :: l4 :: l5 :: some (.int x) :: t) ST M h := r_istore mt_188 dL_law_868 (by show 6 < _; simp only [List.length_cons]; omega) ho rfl
theorem e188_870 : Rn X d 188 870 (l0 :: l1 :: some (.ref a) :: t) ST M h = Rn X d 188 871 (l0 :: l1 :: some (.ref a) :: t) (.ref a :: ST) M h := r_aload_n mt_188 dL_law_870 rfl
theorem e188_871 (hcs : Nat.ble (j_cs ST) 8 = true) : Rn X (d + 1) 188 871 LS (.ref a :: ST) M h = j_rc (M a) 5 (q_k X (Rn X d 101 0 [some (.ref a)] [] M (j_h0 h)) h (d + 1) 188 874 LS ST) := s_callV mt_188 dL_law_871 cl_8_81 mt_101 rfl rfl (Nat.le_add_left _ _) rfl rfl rfl rfl hcs
theorem e188_874 : Rn X d 188 874 (l0 :: l1 :: l2 :: l3 :: l4 :: some (.int x) :: t) ST M h = Rn X d 188 876 (l0 :: l1 :: l2 :: l3 :: l4 :: some (.int x) :: t) (.int x :: ST) M h := r_iload mt_188 dL_law_874 rfl
theorem e188_876 : Rn X d 188 876 LS (.int y :: .int x :: ST) M h = q_eq X x y d 188 881 879 LS ST M h := s_iceq mt_188 dL_law_876 rfl
theorem e188_879 : Rn X d 188 879 LS ST M h = Rn X d 188 880 LS (.int (zN 0) :: ST) M h := r_iconst mt_188 dL_law_879 c_ic0
theorem e188_880 {v : Nat} (h0 : v < 2) : Rn X d 188 880 LS ([.int (zN v)]) M h = some (.inl (some (.int (zN v))), M, h) := s_zret mt_188 dL_law_880 rfl h0
theorem e188_881 : Rn X d 188 881 (l0 :: l1 :: l2 :: l3 :: l4 :: some (.int x) :: t) ST M h = Rn X d 188 883 (l0 :: l1 :: l2 :: l3 :: l4 :: some (.int x) :: t) (.int x :: ST) M h := r_iload mt_188 dL_law_881 rfl
theorem e188_883 : Rn X d 188 883 LS (.int x :: ST) M h = q_eq X x (zN 0) d 188 886 898 LS ST M h := s_ifne mt_188 dL_law_883 rfl
theorem e188_886 : Rn X d 188 886 (l0 :: l1 :: l2 :: some (.ref a) :: t) ST M h = Rn X d 188 887 (l0 :: l1 :: l2 :: some (.ref a) :: t) (.ref a :: ST) M h := r_aload_n mt_188 dL_law_886 rfl
theorem e188_887 : Rn X d 188 887 LS ST M h = Rn X d 188 888 LS (.int (zN 0) :: ST) M h := r_iconst mt_188 dL_law_887 c_ic0
theorem e188_888 : Rn X d 188 888 LS (.int x :: .ref a :: ST) M h = q_lJ X (M a) x d 188 889 LS ST M h := s_lald mt_188 dL_law_888
theorem e188_889 : Rn X d 188 889 (l0 :: l1 :: l2 :: l3 :: l4 :: l5 :: some (.int x) :: t) ST M h = Rn X d 188 891 (l0 :: l1 :: l2 :: l3 :: l4 :: l5 :: some (.int x) :: t) (.int x :: ST) M h := r_iload mt_188 dL_law_889 rfl
theorem e188_891 : Rn X d 188 891 LS (.int x :: ST) M h = Rn X d 188 892 LS (.long x.toInt64 :: ST) M h := r_i2l mt_188 dL_law_891
theorem e188_892 : Rn X d 188 892 LS (.long q :: .long p :: ST) M h = Rn X d 188 893 LS (.int (lg_cmp p q) :: ST) M h := r_lcmp mt_188 dL_law_892
theorem e188_893 : Rn X d 188 893 LS (.int x :: ST) M h = q_eq X x (zN 0) d 188 898 896 LS ST M h := s_ifeq mt_188 dL_law_893 rfl
theorem e188_896 : Rn X d 188 896 LS ST M h = Rn X d 188 897 LS (.int (zN 0) :: ST) M h := r_iconst mt_188 dL_law_896 c_ic0
theorem e188_897 {v : Nat} (h0 : v < 2) : Rn X d 188 897 LS ([.int (zN v)]) M h = some (.inl (some (.int (zN v))), M, h) := s_zret mt_188 dL_law_897 rfl h0
theorem e188_898 : Rn X d 188 898 LS ST M h = Rn X d 188 1344 LS ST M h := r_goto mt_188 dL_law_898 rfl
theorem e188_901 : Rn X d 188 901 (l0 :: some (.ref a) :: t) ST M h = Rn X d 188 902 (l0 :: some (.ref a) :: t) (.ref a :: ST) M h := r_aload_n mt_188 dL_law_901 rfl
theorem e188_902 : Rn X d 188 902 (some (.ref a) :: t) ST M h = Rn X d 188 903 (some (.ref a) :: t) (.ref a :: ST) M h := r_aload_n mt_188 dL_law_902 rfl
theorem e188_903 : Rn X d 188 903 (l0 :: l1 :: l2 :: l3 :: some (.int x) :: t) ST M h = Rn X d 188 905 (l0 :: l1 :: l2 :: l3 :: some (.int x) :: t) (.int x :: ST) M h := r_iload mt_188 dL_law_903 rfl
theorem e188_905 : Rn X d 188 905 LS ST M h = Rn X d 188 906 LS (.int (zN 1) :: ST) M h := r_iconst mt_188 dL_law_905 c_ic1
theorem e188_906 : Rn X d 188 906 LS (.int y :: .int x :: ST) M h = Rn X d 188 907 LS (.int (x + y) :: ST) M h := r_iadd mt_188 dL_law_906
theorem e188_907 : Rn X d 188 907 LS (.int x :: .ref a :: ST) M h = q_ld X (M a) a x d 188 908 LS ST M h := s_iald mt_188 dL_law_907
theorem e188_908 : Rn X d 188 908 (l0 :: l1 :: l2 :: some (.ref a) :: t) ST M h = Rn X d 188 909 (l0 :: l1 :: l2 :: some (.ref a) :: t) (.ref a :: ST) M h := r_aload_n mt_188 dL_law_908 rfl
theorem e188_909 (hcs : Nat.ble (j_cs ST) 8 = true) : Rn X (d + 1) 188 909 LS (.ref b :: .int x :: .ref a :: ST) M h = q_k X (Rn X d 182 0 [some (.ref a), some (.int x), some (.ref b), none] [] M (j_h0 h)) h (d + 1) 188 912 LS ST := s_callS (Or.inr (Or.inl rfl)) mt_188 dL_law_909 cl_8_121 mt_182 rfl (Nat.le_add_left _ _) rfl rfl rfl rfl hcs
theorem e188_912 (ho : j_one l4 = true) : Rn X d 188 912 (l0 :: l1 :: l2 :: l3 :: l4 :: l5 :: t) (.int x :: ST) M h = Rn X d 188 914 (l0 :: l1 :: l2 :: l3 :: l4 :: some (.int x) :: t) ST M h := r_istore mt_188 dL_law_912 (by show 5 < _; simp only [List.length_cons]; omega) ho rfl
theorem e188_914 : Rn X d 188 914 (l0 :: l1 :: some (.ref a) :: t) ST M h = Rn X d 188 915 (l0 :: l1 :: some (.ref a) :: t) (.ref a :: ST) M h := r_aload_n mt_188 dL_law_914 rfl
theorem e188_915 : Rn X d 188 915 (some (.ref a) :: t) ST M h = Rn X d 188 916 (some (.ref a) :: t) (.ref a :: ST) M h := r_aload_n mt_188 dL_law_915 rfl
theorem e188_916 : Rn X d 188 916 (l0 :: l1 :: l2 :: l3 :: some (.int x) :: t) ST M h = Rn X d 188 918 (l0 :: l1 :: l2 :: l3 :: some (.int x) :: t) (.int x :: ST) M h := r_iload mt_188 dL_law_916 rfl
theorem e188_918 : Rn X d 188 918 LS ST M h = Rn X d 188 919 LS (.int (zN 1) :: ST) M h := r_iconst mt_188 dL_law_918 c_ic1
theorem e188_919 : Rn X d 188 919 LS (.int y :: .int x :: ST) M h = Rn X d 188 920 LS (.int (x + y) :: ST) M h := r_iadd mt_188 dL_law_919
theorem e188_920 : Rn X d 188 920 LS (.int x :: .ref a :: ST) M h = q_ld X (M a) a x d 188 921 LS ST M h := s_iald mt_188 dL_law_920
theorem e188_921 (hcs : Nat.ble (j_cs ST) 8 = true) : Rn X (d + 1) 188 921 LS (.int x :: .ref a :: ST) M h = j_rc (M a) 5 (q_k X (Rn X d 144 0 [some (.ref a), some (.int x)] [] M (j_h0 h)) h (d + 1) 188 924 LS ST) := s_callV mt_188 dL_law_921 cl_8_123 mt_144 rfl rfl (Nat.le_add_left _ _) rfl rfl rfl rfl hcs
theorem e188_924 (ho : j_one l5 = true) : Rn X d 188 924 (l0 :: l1 :: l2 :: l3 :: l4 :: l5 :: l6 :: t) (.int x :: ST) M h = Rn X d 188 926 (l0 :: l1 :: l2 :: l3 :: l4 :: l5 :: some (.int x) :: t) ST M h := r_istore mt_188 dL_law_924 (by show 6 < _; simp only [List.length_cons]; omega) ho rfl
theorem e188_926 : Rn X d 188 926 (l0 :: l1 :: some (.ref a) :: t) ST M h = Rn X d 188 927 (l0 :: l1 :: some (.ref a) :: t) (.ref a :: ST) M h := r_aload_n mt_188 dL_law_926 rfl
theorem e188_927 (hcs : Nat.ble (j_cs ST) 8 = true) : Rn X (d + 1) 188 927 LS (.ref a :: ST) M h = j_rc (M a) 5 (q_k X (Rn X d 101 0 [some (.ref a)] [] M (j_h0 h)) h (d + 1) 188 930 LS ST) := s_callV mt_188 dL_law_927 cl_8_81 mt_101 rfl rfl (Nat.le_add_left _ _) rfl rfl rfl rfl hcs
theorem e188_930 : Rn X d 188 930 (l0 :: l1 :: l2 :: l3 :: l4 :: some (.int x) :: t) ST M h = Rn X d 188 932 (l0 :: l1 :: l2 :: l3 :: l4 :: some (.int x) :: t) (.int x :: ST) M h := r_iload mt_188 dL_law_930 rfl
theorem e188_932 : Rn X d 188 932 LS (.int y :: .int x :: ST) M h = q_eq X x y d 188 937 935 LS ST M h := s_iceq mt_188 dL_law_932 rfl
theorem e188_935 : Rn X d 188 935 LS ST M h = Rn X d 188 936 LS (.int (zN 0) :: ST) M h := r_iconst mt_188 dL_law_935 c_ic0
theorem e188_936 {v : Nat} (h0 : v < 2) : Rn X d 188 936 LS ([.int (zN v)]) M h = some (.inl (some (.int (zN v))), M, h) := s_zret mt_188 dL_law_936 rfl h0
theorem e188_937 : Rn X d 188 937 (l0 :: l1 :: l2 :: l3 :: l4 :: some (.int x) :: t) ST M h = Rn X d 188 939 (l0 :: l1 :: l2 :: l3 :: l4 :: some (.int x) :: t) (.int x :: ST) M h := r_iload mt_188 dL_law_937 rfl
theorem e188_939 : Rn X d 188 939 LS (.int x :: ST) M h = q_eq X x (zN 0) d 188 942 954 LS ST M h := s_ifne mt_188 dL_law_939 rfl
theorem e188_942 : Rn X d 188 942 (l0 :: l1 :: l2 :: some (.ref a) :: t) ST M h = Rn X d 188 943 (l0 :: l1 :: l2 :: some (.ref a) :: t) (.ref a :: ST) M h := r_aload_n mt_188 dL_law_942 rfl
theorem e188_943 : Rn X d 188 943 LS ST M h = Rn X d 188 944 LS (.int (zN 0) :: ST) M h := r_iconst mt_188 dL_law_943 c_ic0
theorem e188_944 : Rn X d 188 944 LS (.int x :: .ref a :: ST) M h = q_lJ X (M a) x d 188 945 LS ST M h := s_lald mt_188 dL_law_944
theorem e188_945 : Rn X d 188 945 (l0 :: l1 :: l2 :: l3 :: l4 :: l5 :: some (.int x) :: t) ST M h = Rn X d 188 947 (l0 :: l1 :: l2 :: l3 :: l4 :: l5 :: some (.int x) :: t) (.int x :: ST) M h := r_iload mt_188 dL_law_945 rfl
theorem e188_947 : Rn X d 188 947 LS (.int x :: ST) M h = Rn X d 188 948 LS (.long x.toInt64 :: ST) M h := r_i2l mt_188 dL_law_947
theorem e188_948 : Rn X d 188 948 LS (.long q :: .long p :: ST) M h = Rn X d 188 949 LS (.int (lg_cmp p q) :: ST) M h := r_lcmp mt_188 dL_law_948
theorem e188_949 : Rn X d 188 949 LS (.int x :: ST) M h = q_eq X x (zN 0) d 188 954 952 LS ST M h := s_ifeq mt_188 dL_law_949 rfl
theorem e188_952 : Rn X d 188 952 LS ST M h = Rn X d 188 953 LS (.int (zN 0) :: ST) M h := r_iconst mt_188 dL_law_952 c_ic0
theorem e188_953 {v : Nat} (h0 : v < 2) : Rn X d 188 953 LS ([.int (zN v)]) M h = some (.inl (some (.int (zN v))), M, h) := s_zret mt_188 dL_law_953 rfl h0
theorem e188_954 : Rn X d 188 954 LS ST M h = Rn X d 188 1344 LS ST M h := r_goto mt_188 dL_law_954 rfl
theorem e188_957 : Rn X d 188 957 (l0 :: some (.ref a) :: t) ST M h = Rn X d 188 958 (l0 :: some (.ref a) :: t) (.ref a :: ST) M h := r_aload_n mt_188 dL_law_957 rfl
theorem e188_958 : Rn X d 188 958 (some (.ref a) :: t) ST M h = Rn X d 188 959 (some (.ref a) :: t) (.ref a :: ST) M h := r_aload_n mt_188 dL_law_958 rfl
theorem e188_959 : Rn X d 188 959 (l0 :: l1 :: l2 :: l3 :: some (.int x) :: t) ST M h = Rn X d 188 961 (l0 :: l1 :: l2 :: l3 :: some (.int x) :: t) (.int x :: ST) M h := r_iload mt_188 dL_law_959 rfl
theorem e188_961 : Rn X d 188 961 LS ST M h = Rn X d 188 962 LS (.int (zN 1) :: ST) M h := r_iconst mt_188 dL_law_961 c_ic1
theorem e188_962 : Rn X d 188 962 LS (.int y :: .int x :: ST) M h = Rn X d 188 963 LS (.int (x + y) :: ST) M h := r_iadd mt_188 dL_law_962
theorem e188_963 : Rn X d 188 963 LS (.int x :: .ref a :: ST) M h = q_ld X (M a) a x d 188 964 LS ST M h := s_iald mt_188 dL_law_963
theorem e188_964 : Rn X d 188 964 (l0 :: l1 :: l2 :: some (.ref a) :: t) ST M h = Rn X d 188 965 (l0 :: l1 :: l2 :: some (.ref a) :: t) (.ref a :: ST) M h := r_aload_n mt_188 dL_law_964 rfl
theorem e188_965 (hcs : Nat.ble (j_cs ST) 8 = true) : Rn X (d + 1) 188 965 LS (.ref b :: .int x :: .ref a :: ST) M h = q_k X (Rn X d 183 0 [some (.ref a), some (.int x), some (.ref b), none] [] M (j_h0 h)) h (d + 1) 188 968 LS ST := s_callS (Or.inr (Or.inl rfl)) mt_188 dL_law_965 cl_8_124 mt_183 rfl (Nat.le_add_left _ _) rfl rfl rfl rfl hcs
theorem e188_968 (ho : j_one l4 = true) : Rn X d 188 968 (l0 :: l1 :: l2 :: l3 :: l4 :: l5 :: t) (.int x :: ST) M h = Rn X d 188 970 (l0 :: l1 :: l2 :: l3 :: l4 :: some (.int x) :: t) ST M h := r_istore mt_188 dL_law_968 (by show 5 < _; simp only [List.length_cons]; omega) ho rfl
theorem e188_970 : Rn X d 188 970 (l0 :: l1 :: some (.ref a) :: t) ST M h = Rn X d 188 971 (l0 :: l1 :: some (.ref a) :: t) (.ref a :: ST) M h := r_aload_n mt_188 dL_law_970 rfl
theorem e188_971 : Rn X d 188 971 (some (.ref a) :: t) ST M h = Rn X d 188 972 (some (.ref a) :: t) (.ref a :: ST) M h := r_aload_n mt_188 dL_law_971 rfl
theorem e188_972 : Rn X d 188 972 (l0 :: l1 :: l2 :: l3 :: some (.int x) :: t) ST M h = Rn X d 188 974 (l0 :: l1 :: l2 :: l3 :: some (.int x) :: t) (.int x :: ST) M h := r_iload mt_188 dL_law_972 rfl
theorem e188_974 : Rn X d 188 974 LS ST M h = Rn X d 188 975 LS (.int (zN 1) :: ST) M h := r_iconst mt_188 dL_law_974 c_ic1
theorem e188_975 : Rn X d 188 975 LS (.int y :: .int x :: ST) M h = Rn X d 188 976 LS (.int (x + y) :: ST) M h := r_iadd mt_188 dL_law_975
theorem e188_976 : Rn X d 188 976 LS (.int x :: .ref a :: ST) M h = q_ld X (M a) a x d 188 977 LS ST M h := s_iald mt_188 dL_law_976
theorem e188_977 (hcs : Nat.ble (j_cs ST) 8 = true) : Rn X (d + 1) 188 977 LS (.int x :: .ref a :: ST) M h = j_rc (M a) 5 (q_k X (Rn X d 145 0 [some (.ref a), some (.int x)] [] M (j_h0 h)) h (d + 1) 188 980 LS ST) := s_callV mt_188 dL_law_977 cl_8_126 mt_145 rfl rfl (Nat.le_add_left _ _) rfl rfl rfl rfl hcs
theorem e188_980 (ho : j_one l5 = true) : Rn X d 188 980 (l0 :: l1 :: l2 :: l3 :: l4 :: l5 :: l6 :: t) (.int x :: ST) M h = Rn X d 188 982 (l0 :: l1 :: l2 :: l3 :: l4 :: l5 :: some (.int x) :: t) ST M h := r_istore mt_188 dL_law_980 (by show 6 < _; simp only [List.length_cons]; omega) ho rfl
theorem e188_982 : Rn X d 188 982 (l0 :: l1 :: some (.ref a) :: t) ST M h = Rn X d 188 983 (l0 :: l1 :: some (.ref a) :: t) (.ref a :: ST) M h := r_aload_n mt_188 dL_law_982 rfl
theorem e188_983 (hcs : Nat.ble (j_cs ST) 8 = true) : Rn X (d + 1) 188 983 LS (.ref a :: ST) M h = j_rc (M a) 5 (q_k X (Rn X d 101 0 [some (.ref a)] [] M (j_h0 h)) h (d + 1) 188 986 LS ST) := s_callV mt_188 dL_law_983 cl_8_81 mt_101 rfl rfl (Nat.le_add_left _ _) rfl rfl rfl rfl hcs
theorem e188_986 : Rn X d 188 986 (l0 :: l1 :: l2 :: l3 :: l4 :: some (.int x) :: t) ST M h = Rn X d 188 988 (l0 :: l1 :: l2 :: l3 :: l4 :: some (.int x) :: t) (.int x :: ST) M h := r_iload mt_188 dL_law_986 rfl
theorem e188_988 : Rn X d 188 988 LS (.int y :: .int x :: ST) M h = q_eq X x y d 188 993 991 LS ST M h := s_iceq mt_188 dL_law_988 rfl
theorem e188_991 : Rn X d 188 991 LS ST M h = Rn X d 188 992 LS (.int (zN 0) :: ST) M h := r_iconst mt_188 dL_law_991 c_ic0
theorem e188_992 {v : Nat} (h0 : v < 2) : Rn X d 188 992 LS ([.int (zN v)]) M h = some (.inl (some (.int (zN v))), M, h) := s_zret mt_188 dL_law_992 rfl h0
theorem e188_993 : Rn X d 188 993 (l0 :: l1 :: l2 :: l3 :: l4 :: some (.int x) :: t) ST M h = Rn X d 188 995 (l0 :: l1 :: l2 :: l3 :: l4 :: some (.int x) :: t) (.int x :: ST) M h := r_iload mt_188 dL_law_993 rfl
theorem e188_995 : Rn X d 188 995 LS (.int x :: ST) M h = q_eq X x (zN 0) d 188 998 1010 LS ST M h := s_ifne mt_188 dL_law_995 rfl
theorem e188_998 : Rn X d 188 998 (l0 :: l1 :: l2 :: some (.ref a) :: t) ST M h = Rn X d 188 999 (l0 :: l1 :: l2 :: some (.ref a) :: t) (.ref a :: ST) M h := r_aload_n mt_188 dL_law_998 rfl
theorem e188_999 : Rn X d 188 999 LS ST M h = Rn X d 188 1000 LS (.int (zN 0) :: ST) M h := r_iconst mt_188 dL_law_999 c_ic0
theorem e188_1000 : Rn X d 188 1000 LS (.int x :: .ref a :: ST) M h = q_lJ X (M a) x d 188 1001 LS ST M h := s_lald mt_188 dL_law_1000
theorem e188_1001 : Rn X d 188 1001 (l0 :: l1 :: l2 :: l3 :: l4 :: l5 :: some (.int x) :: t) ST M h = Rn X d 188 1003 (l0 :: l1 :: l2 :: l3 :: l4 :: l5 :: some (.int x) :: t) (.int x :: ST) M h := r_iload mt_188 dL_law_1001 rfl
theorem e188_1003 : Rn X d 188 1003 LS (.int x :: ST) M h = Rn X d 188 1004 LS (.long x.toInt64 :: ST) M h := r_i2l mt_188 dL_law_1003
theorem e188_1004 : Rn X d 188 1004 LS (.long q :: .long p :: ST) M h = Rn X d 188 1005 LS (.int (lg_cmp p q) :: ST) M h := r_lcmp mt_188 dL_law_1004
theorem e188_1005 : Rn X d 188 1005 LS (.int x :: ST) M h = q_eq X x (zN 0) d 188 1010 1008 LS ST M h := s_ifeq mt_188 dL_law_1005 rfl
theorem e188_1008 : Rn X d 188 1008 LS ST M h = Rn X d 188 1009 LS (.int (zN 0) :: ST) M h := r_iconst mt_188 dL_law_1008 c_ic0
theorem e188_1009 {v : Nat} (h0 : v < 2) : Rn X d 188 1009 LS ([.int (zN v)]) M h = some (.inl (some (.int (zN v))), M, h) := s_zret mt_188 dL_law_1009 rfl h0
theorem e188_1010 : Rn X d 188 1010 LS ST M h = Rn X d 188 1344 LS ST M h := r_goto mt_188 dL_law_1010 rfl
theorem e188_1013 : Rn X d 188 1013 (l0 :: some (.ref a) :: t) ST M h = Rn X d 188 1014 (l0 :: some (.ref a) :: t) (.ref a :: ST) M h := r_aload_n mt_188 dL_law_1013 rfl
theorem e188_1014 : Rn X d 188 1014 (some (.ref a) :: t) ST M h = Rn X d 188 1015 (some (.ref a) :: t) (.ref a :: ST) M h := r_aload_n mt_188 dL_law_1014 rfl
theorem e188_1015 : Rn X d 188 1015 (l0 :: l1 :: l2 :: l3 :: some (.int x) :: t) ST M h = Rn X d 188 1017 (l0 :: l1 :: l2 :: l3 :: some (.int x) :: t) (.int x :: ST) M h := r_iload mt_188 dL_law_1015 rfl
theorem e188_1017 : Rn X d 188 1017 LS ST M h = Rn X d 188 1018 LS (.int (zN 1) :: ST) M h := r_iconst mt_188 dL_law_1017 c_ic1
theorem e188_1018 : Rn X d 188 1018 LS (.int y :: .int x :: ST) M h = Rn X d 188 1019 LS (.int (x + y) :: ST) M h := r_iadd mt_188 dL_law_1018
theorem e188_1019 : Rn X d 188 1019 LS (.int x :: .ref a :: ST) M h = q_ld X (M a) a x d 188 1020 LS ST M h := s_iald mt_188 dL_law_1019
theorem e188_1020 : Rn X d 188 1020 (some (.ref a) :: t) ST M h = Rn X d 188 1021 (some (.ref a) :: t) (.ref a :: ST) M h := r_aload_n mt_188 dL_law_1020 rfl
theorem e188_1021 : Rn X d 188 1021 (l0 :: l1 :: l2 :: l3 :: some (.int x) :: t) ST M h = Rn X d 188 1023 (l0 :: l1 :: l2 :: l3 :: some (.int x) :: t) (.int x :: ST) M h := r_iload mt_188 dL_law_1021 rfl
theorem e188_1023 : Rn X d 188 1023 LS ST M h = Rn X d 188 1024 LS (.int (zN 2) :: ST) M h := r_iconst mt_188 dL_law_1023 c_ic2
theorem e188_1024 : Rn X d 188 1024 LS (.int y :: .int x :: ST) M h = Rn X d 188 1025 LS (.int (x + y) :: ST) M h := r_iadd mt_188 dL_law_1024
theorem e188_1025 : Rn X d 188 1025 LS (.int x :: .ref a :: ST) M h = q_ld X (M a) a x d 188 1026 LS ST M h := s_iald mt_188 dL_law_1025
theorem e188_1026 : Rn X d 188 1026 (l0 :: l1 :: l2 :: some (.ref a) :: t) ST M h = Rn X d 188 1027 (l0 :: l1 :: l2 :: some (.ref a) :: t) (.ref a :: ST) M h := r_aload_n mt_188 dL_law_1026 rfl
theorem e188_1027 (hcs : Nat.ble (j_cs ST) 8 = true) : Rn X (d + 1) 188 1027 LS (.ref b :: .int y :: .int x :: .ref a :: ST) M h = q_k X (Rn X d 184 0 [some (.ref a), some (.int x), some (.int y), some (.ref b), none] [] M (j_h0 h)) h (d + 1) 188 1030 LS ST := s_callS (Or.inr (Or.inl rfl)) mt_188 dL_law_1027 cl_8_127 mt_184 rfl (Nat.le_add_left _ _) rfl rfl rfl rfl hcs
theorem e188_1030 (ho : j_one l4 = true) : Rn X d 188 1030 (l0 :: l1 :: l2 :: l3 :: l4 :: l5 :: t) (.int x :: ST) M h = Rn X d 188 1032 (l0 :: l1 :: l2 :: l3 :: l4 :: some (.int x) :: t) ST M h := r_istore mt_188 dL_law_1030 (by show 5 < _; simp only [List.length_cons]; omega) ho rfl
theorem e188_1032 : Rn X d 188 1032 (l0 :: l1 :: some (.ref a) :: t) ST M h = Rn X d 188 1033 (l0 :: l1 :: some (.ref a) :: t) (.ref a :: ST) M h := r_aload_n mt_188 dL_law_1032 rfl
theorem e188_1033 : Rn X d 188 1033 (some (.ref a) :: t) ST M h = Rn X d 188 1034 (some (.ref a) :: t) (.ref a :: ST) M h := r_aload_n mt_188 dL_law_1033 rfl
theorem e188_1034 : Rn X d 188 1034 (l0 :: l1 :: l2 :: l3 :: some (.int x) :: t) ST M h = Rn X d 188 1036 (l0 :: l1 :: l2 :: l3 :: some (.int x) :: t) (.int x :: ST) M h := r_iload mt_188 dL_law_1034 rfl
theorem e188_1036 : Rn X d 188 1036 LS ST M h = Rn X d 188 1037 LS (.int (zN 1) :: ST) M h := r_iconst mt_188 dL_law_1036 c_ic1
theorem e188_1037 : Rn X d 188 1037 LS (.int y :: .int x :: ST) M h = Rn X d 188 1038 LS (.int (x + y) :: ST) M h := r_iadd mt_188 dL_law_1037
theorem e188_1038 : Rn X d 188 1038 LS (.int x :: .ref a :: ST) M h = q_ld X (M a) a x d 188 1039 LS ST M h := s_iald mt_188 dL_law_1038
theorem e188_1039 : Rn X d 188 1039 (some (.ref a) :: t) ST M h = Rn X d 188 1040 (some (.ref a) :: t) (.ref a :: ST) M h := r_aload_n mt_188 dL_law_1039 rfl
theorem e188_1040 : Rn X d 188 1040 (l0 :: l1 :: l2 :: l3 :: some (.int x) :: t) ST M h = Rn X d 188 1042 (l0 :: l1 :: l2 :: l3 :: some (.int x) :: t) (.int x :: ST) M h := r_iload mt_188 dL_law_1040 rfl
theorem e188_1042 : Rn X d 188 1042 LS ST M h = Rn X d 188 1043 LS (.int (zN 2) :: ST) M h := r_iconst mt_188 dL_law_1042 c_ic2
theorem e188_1043 : Rn X d 188 1043 LS (.int y :: .int x :: ST) M h = Rn X d 188 1044 LS (.int (x + y) :: ST) M h := r_iadd mt_188 dL_law_1043
theorem e188_1044 : Rn X d 188 1044 LS (.int x :: .ref a :: ST) M h = q_ld X (M a) a x d 188 1045 LS ST M h := s_iald mt_188 dL_law_1044
theorem e188_1045 (hcs : Nat.ble (j_cs ST) 8 = true) : Rn X (d + 1) 188 1045 LS (.int y :: .int x :: .ref a :: ST) M h = j_rc (M a) 5 (q_k X (Rn X d 150 0 [some (.ref a), some (.int x), some (.int y)] [] M (j_h0 h)) h (d + 1) 188 1048 LS ST) := s_callV mt_188 dL_law_1045 cl_8_129 mt_150 rfl rfl (Nat.le_add_left _ _) rfl rfl rfl rfl hcs
theorem e188_1048 (ho : j_one l5 = true) : Rn X d 188 1048 (l0 :: l1 :: l2 :: l3 :: l4 :: l5 :: l6 :: t) (.int x :: ST) M h = Rn X d 188 1050 (l0 :: l1 :: l2 :: l3 :: l4 :: l5 :: some (.int x) :: t) ST M h := r_istore mt_188 dL_law_1048 (by show 6 < _; simp only [List.length_cons]; omega) ho rfl
theorem e188_1050 : Rn X d 188 1050 (l0 :: l1 :: some (.ref a) :: t) ST M h = Rn X d 188 1051 (l0 :: l1 :: some (.ref a) :: t) (.ref a :: ST) M h := r_aload_n mt_188 dL_law_1050 rfl
theorem e188_1051 (hcs : Nat.ble (j_cs ST) 8 = true) : Rn X (d + 1) 188 1051 LS (.ref a :: ST) M h = j_rc (M a) 5 (q_k X (Rn X d 101 0 [some (.ref a)] [] M (j_h0 h)) h (d + 1) 188 1054 LS ST) := s_callV mt_188 dL_law_1051 cl_8_81 mt_101 rfl rfl (Nat.le_add_left _ _) rfl rfl rfl rfl hcs
theorem e188_1054 : Rn X d 188 1054 (l0 :: l1 :: l2 :: l3 :: l4 :: some (.int x) :: t) ST M h = Rn X d 188 1056 (l0 :: l1 :: l2 :: l3 :: l4 :: some (.int x) :: t) (.int x :: ST) M h := r_iload mt_188 dL_law_1054 rfl
theorem e188_1056 : Rn X d 188 1056 LS (.int y :: .int x :: ST) M h = q_eq X x y d 188 1061 1059 LS ST M h := s_iceq mt_188 dL_law_1056 rfl
theorem e188_1059 : Rn X d 188 1059 LS ST M h = Rn X d 188 1060 LS (.int (zN 0) :: ST) M h := r_iconst mt_188 dL_law_1059 c_ic0
theorem e188_1060 {v : Nat} (h0 : v < 2) : Rn X d 188 1060 LS ([.int (zN v)]) M h = some (.inl (some (.int (zN v))), M, h) := s_zret mt_188 dL_law_1060 rfl h0
theorem e188_1061 : Rn X d 188 1061 (l0 :: l1 :: l2 :: l3 :: l4 :: some (.int x) :: t) ST M h = Rn X d 188 1063 (l0 :: l1 :: l2 :: l3 :: l4 :: some (.int x) :: t) (.int x :: ST) M h := r_iload mt_188 dL_law_1061 rfl
theorem e188_1063 : Rn X d 188 1063 LS (.int x :: ST) M h = q_eq X x (zN 0) d 188 1066 1078 LS ST M h := s_ifne mt_188 dL_law_1063 rfl
theorem e188_1066 : Rn X d 188 1066 (l0 :: l1 :: l2 :: some (.ref a) :: t) ST M h = Rn X d 188 1067 (l0 :: l1 :: l2 :: some (.ref a) :: t) (.ref a :: ST) M h := r_aload_n mt_188 dL_law_1066 rfl
theorem e188_1067 : Rn X d 188 1067 LS ST M h = Rn X d 188 1068 LS (.int (zN 0) :: ST) M h := r_iconst mt_188 dL_law_1067 c_ic0
theorem e188_1068 : Rn X d 188 1068 LS (.int x :: .ref a :: ST) M h = q_lJ X (M a) x d 188 1069 LS ST M h := s_lald mt_188 dL_law_1068
theorem e188_1069 : Rn X d 188 1069 (l0 :: l1 :: l2 :: l3 :: l4 :: l5 :: some (.int x) :: t) ST M h = Rn X d 188 1071 (l0 :: l1 :: l2 :: l3 :: l4 :: l5 :: some (.int x) :: t) (.int x :: ST) M h := r_iload mt_188 dL_law_1069 rfl
theorem e188_1071 : Rn X d 188 1071 LS (.int x :: ST) M h = Rn X d 188 1072 LS (.long x.toInt64 :: ST) M h := r_i2l mt_188 dL_law_1071
theorem e188_1072 : Rn X d 188 1072 LS (.long q :: .long p :: ST) M h = Rn X d 188 1073 LS (.int (lg_cmp p q) :: ST) M h := r_lcmp mt_188 dL_law_1072
theorem e188_1073 : Rn X d 188 1073 LS (.int x :: ST) M h = q_eq X x (zN 0) d 188 1078 1076 LS ST M h := s_ifeq mt_188 dL_law_1073 rfl
theorem e188_1076 : Rn X d 188 1076 LS ST M h = Rn X d 188 1077 LS (.int (zN 0) :: ST) M h := r_iconst mt_188 dL_law_1076 c_ic0
theorem e188_1077 {v : Nat} (h0 : v < 2) : Rn X d 188 1077 LS ([.int (zN v)]) M h = some (.inl (some (.int (zN v))), M, h) := s_zret mt_188 dL_law_1077 rfl h0
theorem e188_1078 : Rn X d 188 1078 LS ST M h = Rn X d 188 1344 LS ST M h := r_goto mt_188 dL_law_1078 rfl
theorem e188_1081 : Rn X d 188 1081 (l0 :: some (.ref a) :: t) ST M h = Rn X d 188 1082 (l0 :: some (.ref a) :: t) (.ref a :: ST) M h := r_aload_n mt_188 dL_law_1081 rfl
theorem e188_1082 (hcs : Nat.ble (j_cs ST) 8 = true) : Rn X (d + 1) 188 1082 LS (.ref a :: ST) M h = j_rc (M a) 4 (q_k X (Rn X d 77 0 [some (.ref a), none, none] [] M (j_h0 h)) h (d + 1) 188 1085 LS ST) := s_callV mt_188 dL_law_1082 cl_8_130 mt_77 rfl rfl (Nat.le_add_left _ _) rfl rfl rfl rfl hcs
theorem e188_1085 : Rn X d 188 1085 (l0 :: l1 :: some (.ref a) :: t) ST M h = Rn X d 188 1086 (l0 :: l1 :: some (.ref a) :: t) (.ref a :: ST) M h := r_aload_n mt_188 dL_law_1085 rfl
theorem e188_1086 (hcs : Nat.ble (j_cs ST) 8 = true) : Rn X (d + 1) 188 1086 LS (.ref a :: ST) M h = j_rc (M a) 5 (q_k X (Rn X d 152 0 [some (.ref a)] [] M (j_h0 h)) h (d + 1) 188 1089 LS ST) := s_callV mt_188 dL_law_1086 cl_8_133 mt_152 rfl rfl (Nat.le_add_left _ _) rfl rfl rfl rfl hcs
theorem e188_1089 : Rn X d 188 1089 LS (.int y :: .int x :: ST) M h = q_eq X x y d 188 1344 1092 LS ST M h := s_iceq mt_188 dL_law_1089 rfl
theorem e188_1092 : Rn X d 188 1092 LS ST M h = Rn X d 188 1093 LS (.int (zN 0) :: ST) M h := r_iconst mt_188 dL_law_1092 c_ic0
theorem e188_1093 {v : Nat} (h0 : v < 2) : Rn X d 188 1093 LS ([.int (zN v)]) M h = some (.inl (some (.int (zN v))), M, h) := s_zret mt_188 dL_law_1093 rfl h0
theorem e188_1094 : Rn X d 188 1094 (l0 :: some (.ref a) :: t) ST M h = Rn X d 188 1095 (l0 :: some (.ref a) :: t) (.ref a :: ST) M h := r_aload_n mt_188 dL_law_1094 rfl
theorem e188_1095 : Rn X d 188 1095 (some (.ref a) :: t) ST M h = Rn X d 188 1096 (some (.ref a) :: t) (.ref a :: ST) M h := r_aload_n mt_188 dL_law_1095 rfl
theorem e188_1096 : Rn X d 188 1096 (l0 :: l1 :: l2 :: l3 :: some (.int x) :: t) ST M h = Rn X d 188 1098 (l0 :: l1 :: l2 :: l3 :: some (.int x) :: t) (.int x :: ST) M h := r_iload mt_188 dL_law_1096 rfl
theorem e188_1098 : Rn X d 188 1098 LS ST M h = Rn X d 188 1099 LS (.int (zN 1) :: ST) M h := r_iconst mt_188 dL_law_1098 c_ic1
theorem e188_1099 : Rn X d 188 1099 LS (.int y :: .int x :: ST) M h = Rn X d 188 1100 LS (.int (x + y) :: ST) M h := r_iadd mt_188 dL_law_1099
theorem e188_1100 : Rn X d 188 1100 LS (.int x :: .ref a :: ST) M h = q_ld X (M a) a x d 188 1101 LS ST M h := s_iald mt_188 dL_law_1100
theorem e188_1101 : Rn X d 188 1101 (l0 :: l1 :: l2 :: some (.ref a) :: t) ST M h = Rn X d 188 1102 (l0 :: l1 :: l2 :: some (.ref a) :: t) (.ref a :: ST) M h := r_aload_n mt_188 dL_law_1101 rfl
theorem e188_1102 (hcs : Nat.ble (j_cs ST) 8 = true) : Rn X (d + 1) 188 1102 LS (.ref b :: .int x :: .ref a :: ST) M h = q_k X (Rn X d 185 0 [some (.ref a), some (.int x), some (.ref b), none] [] M (j_h0 h)) h (d + 1) 188 1105 LS ST := s_callS (Or.inr (Or.inl rfl)) mt_188 dL_law_1102 cl_8_134 mt_185 rfl (Nat.le_add_left _ _) rfl rfl rfl rfl hcs
theorem e188_1105 (ho : j_one l4 = true) : Rn X d 188 1105 (l0 :: l1 :: l2 :: l3 :: l4 :: l5 :: t) (.int x :: ST) M h = Rn X d 188 1107 (l0 :: l1 :: l2 :: l3 :: l4 :: some (.int x) :: t) ST M h := r_istore mt_188 dL_law_1105 (by show 5 < _; simp only [List.length_cons]; omega) ho rfl
theorem e188_1107 : Rn X d 188 1107 (l0 :: l1 :: some (.ref a) :: t) ST M h = Rn X d 188 1108 (l0 :: l1 :: some (.ref a) :: t) (.ref a :: ST) M h := r_aload_n mt_188 dL_law_1107 rfl
theorem e188_1108 : Rn X d 188 1108 (some (.ref a) :: t) ST M h = Rn X d 188 1109 (some (.ref a) :: t) (.ref a :: ST) M h := r_aload_n mt_188 dL_law_1108 rfl
theorem e188_1109 : Rn X d 188 1109 (l0 :: l1 :: l2 :: l3 :: some (.int x) :: t) ST M h = Rn X d 188 1111 (l0 :: l1 :: l2 :: l3 :: some (.int x) :: t) (.int x :: ST) M h := r_iload mt_188 dL_law_1109 rfl
theorem e188_1111 : Rn X d 188 1111 LS ST M h = Rn X d 188 1112 LS (.int (zN 1) :: ST) M h := r_iconst mt_188 dL_law_1111 c_ic1
theorem e188_1112 : Rn X d 188 1112 LS (.int y :: .int x :: ST) M h = Rn X d 188 1113 LS (.int (x + y) :: ST) M h := r_iadd mt_188 dL_law_1112
theorem e188_1113 : Rn X d 188 1113 LS (.int x :: .ref a :: ST) M h = q_ld X (M a) a x d 188 1114 LS ST M h := s_iald mt_188 dL_law_1113
theorem e188_1114 (hcs : Nat.ble (j_cs ST) 8 = true) : Rn X (d + 1) 188 1114 LS (.int x :: .ref a :: ST) M h = j_rc (M a) 5 (q_k X (Rn X d 153 0 [some (.ref a), some (.int x), none, none] [] M (j_h0 h)) h (d + 1) 188 1117 LS ST) := s_callV mt_188 dL_law_1114 cl_8_136 mt_153 rfl rfl (Nat.le_add_left _ _) rfl rfl rfl rfl hcs
theorem e188_1117 (ho : j_one l5 = true) : Rn X d 188 1117 (l0 :: l1 :: l2 :: l3 :: l4 :: l5 :: l6 :: t) (.int x :: ST) M h = Rn X d 188 1119 (l0 :: l1 :: l2 :: l3 :: l4 :: l5 :: some (.int x) :: t) ST M h := r_istore mt_188 dL_law_1117 (by show 6 < _; simp only [List.length_cons]; omega) ho rfl
theorem e188_1119 : Rn X d 188 1119 (l0 :: l1 :: some (.ref a) :: t) ST M h = Rn X d 188 1120 (l0 :: l1 :: some (.ref a) :: t) (.ref a :: ST) M h := r_aload_n mt_188 dL_law_1119 rfl
theorem e188_1120 (hcs : Nat.ble (j_cs ST) 8 = true) : Rn X (d + 1) 188 1120 LS (.ref a :: ST) M h = j_rc (M a) 5 (q_k X (Rn X d 101 0 [some (.ref a)] [] M (j_h0 h)) h (d + 1) 188 1123 LS ST) := s_callV mt_188 dL_law_1120 cl_8_81 mt_101 rfl rfl (Nat.le_add_left _ _) rfl rfl rfl rfl hcs
theorem e188_1123 : Rn X d 188 1123 (l0 :: l1 :: l2 :: l3 :: l4 :: some (.int x) :: t) ST M h = Rn X d 188 1125 (l0 :: l1 :: l2 :: l3 :: l4 :: some (.int x) :: t) (.int x :: ST) M h := r_iload mt_188 dL_law_1123 rfl
theorem e188_1125 : Rn X d 188 1125 LS (.int y :: .int x :: ST) M h = q_eq X x y d 188 1130 1128 LS ST M h := s_iceq mt_188 dL_law_1125 rfl
theorem e188_1128 : Rn X d 188 1128 LS ST M h = Rn X d 188 1129 LS (.int (zN 0) :: ST) M h := r_iconst mt_188 dL_law_1128 c_ic0
theorem e188_1129 {v : Nat} (h0 : v < 2) : Rn X d 188 1129 LS ([.int (zN v)]) M h = some (.inl (some (.int (zN v))), M, h) := s_zret mt_188 dL_law_1129 rfl h0
theorem e188_1130 : Rn X d 188 1130 (l0 :: l1 :: l2 :: l3 :: l4 :: some (.int x) :: t) ST M h = Rn X d 188 1132 (l0 :: l1 :: l2 :: l3 :: l4 :: some (.int x) :: t) (.int x :: ST) M h := r_iload mt_188 dL_law_1130 rfl
theorem e188_1132 : Rn X d 188 1132 LS (.int x :: ST) M h = q_eq X x (zN 0) d 188 1135 1147 LS ST M h := s_ifne mt_188 dL_law_1132 rfl
theorem e188_1135 : Rn X d 188 1135 (l0 :: l1 :: l2 :: some (.ref a) :: t) ST M h = Rn X d 188 1136 (l0 :: l1 :: l2 :: some (.ref a) :: t) (.ref a :: ST) M h := r_aload_n mt_188 dL_law_1135 rfl
theorem e188_1136 : Rn X d 188 1136 LS ST M h = Rn X d 188 1137 LS (.int (zN 0) :: ST) M h := r_iconst mt_188 dL_law_1136 c_ic0
theorem e188_1137 : Rn X d 188 1137 LS (.int x :: .ref a :: ST) M h = q_lJ X (M a) x d 188 1138 LS ST M h := s_lald mt_188 dL_law_1137
theorem e188_1138 : Rn X d 188 1138 (l0 :: l1 :: l2 :: l3 :: l4 :: l5 :: some (.int x) :: t) ST M h = Rn X d 188 1140 (l0 :: l1 :: l2 :: l3 :: l4 :: l5 :: some (.int x) :: t) (.int x :: ST) M h := r_iload mt_188 dL_law_1138 rfl
theorem e188_1140 : Rn X d 188 1140 LS (.int x :: ST) M h = Rn X d 188 1141 LS (.long x.toInt64 :: ST) M h := r_i2l mt_188 dL_law_1140
theorem e188_1141 : Rn X d 188 1141 LS (.long q :: .long p :: ST) M h = Rn X d 188 1142 LS (.int (lg_cmp p q) :: ST) M h := r_lcmp mt_188 dL_law_1141
theorem e188_1142 : Rn X d 188 1142 LS (.int x :: ST) M h = q_eq X x (zN 0) d 188 1147 1145 LS ST M h := s_ifeq mt_188 dL_law_1142 rfl
theorem e188_1145 : Rn X d 188 1145 LS ST M h = Rn X d 188 1146 LS (.int (zN 0) :: ST) M h := r_iconst mt_188 dL_law_1145 c_ic0
theorem e188_1146 {v : Nat} (h0 : v < 2) : Rn X d 188 1146 LS ([.int (zN v)]) M h = some (.inl (some (.int (zN v))), M, h) := s_zret mt_188 dL_law_1146 rfl h0
theorem e188_1147 : Rn X d 188 1147 LS ST M h = Rn X d 188 1344 LS ST M h := r_goto mt_188 dL_law_1147 rfl
theorem e188_1150 : Rn X d 188 1150 (l0 :: some (.ref a) :: t) ST M h = Rn X d 188 1151 (l0 :: some (.ref a) :: t) (.ref a :: ST) M h := r_aload_n mt_188 dL_law_1150 rfl
theorem e188_1151 (hcs : Nat.ble (j_cs ST) 8 = true) : Rn X (d + 1) 188 1151 LS (.ref a :: ST) M h = j_rc (M a) 4 (q_k X (Rn X d 79 0 [some (.ref a)] [] M (j_h0 h)) h (d + 1) 188 1154 LS ST) := s_callV mt_188 dL_law_1151 cl_8_137 mt_79 rfl rfl (Nat.le_add_left _ _) rfl rfl rfl rfl hcs
theorem e188_1154 : Rn X d 188 1154 (l0 :: l1 :: some (.ref a) :: t) ST M h = Rn X d 188 1155 (l0 :: l1 :: some (.ref a) :: t) (.ref a :: ST) M h := r_aload_n mt_188 dL_law_1154 rfl
theorem e188_1155 (hcs : Nat.ble (j_cs ST) 8 = true) : Rn X (d + 1) 188 1155 LS (.ref a :: ST) M h = j_rc (M a) 5 (q_k X (Rn X d 154 0 [some (.ref a)] [] M (j_h0 h)) h (d + 1) 188 1158 LS ST) := s_callV mt_188 dL_law_1155 cl_8_140 mt_154 rfl rfl (Nat.le_add_left _ _) rfl rfl rfl rfl hcs
theorem e188_1158 : Rn X d 188 1158 LS (.int y :: .int x :: ST) M h = q_eq X x y d 188 1344 1161 LS ST M h := s_iceq mt_188 dL_law_1158 rfl
theorem e188_1161 : Rn X d 188 1161 LS ST M h = Rn X d 188 1162 LS (.int (zN 0) :: ST) M h := r_iconst mt_188 dL_law_1161 c_ic0
theorem e188_1162 {v : Nat} (h0 : v < 2) : Rn X d 188 1162 LS ([.int (zN v)]) M h = some (.inl (some (.int (zN v))), M, h) := s_zret mt_188 dL_law_1162 rfl h0
theorem e188_1163 : Rn X d 188 1163 (l0 :: some (.ref a) :: t) ST M h = Rn X d 188 1164 (l0 :: some (.ref a) :: t) (.ref a :: ST) M h := r_aload_n mt_188 dL_law_1163 rfl
theorem e188_1164 (hcs : Nat.ble (j_cs ST) 8 = true) : Rn X (d + 1) 188 1164 LS (.ref a :: ST) M h = j_rc (M a) 4 (q_k X (Rn X d 80 0 [some (.ref a)] [] M (j_h0 h)) h (d + 1) 188 1167 LS ST) := s_callV mt_188 dL_law_1164 cl_8_141 mt_80 rfl rfl (Nat.le_add_left _ _) rfl rfl rfl rfl hcs
theorem e188_1167 (ho : j_one l4 = true) : Rn X d 188 1167 (l0 :: l1 :: l2 :: l3 :: l4 :: l5 :: l6 :: t) (.double g :: ST) M h = Rn X d 188 1169 (l0 :: l1 :: l2 :: l3 :: l4 :: some (.double g) :: none :: t) ST M h := r_dstore mt_188 dL_law_1167 (by show 6 < _; simp only [List.length_cons]; omega) ho rfl
theorem e188_1169 : Rn X d 188 1169 (l0 :: l1 :: some (.ref a) :: t) ST M h = Rn X d 188 1170 (l0 :: l1 :: some (.ref a) :: t) (.ref a :: ST) M h := r_aload_n mt_188 dL_law_1169 rfl
theorem e188_1170 (hcs : Nat.ble (j_cs ST) 8 = true) : Rn X (d + 1) 188 1170 LS (.ref a :: ST) M h = j_rc (M a) 5 (q_k X (Rn X d 155 0 [some (.ref a)] [] M (j_h0 h)) h (d + 1) 188 1173 LS ST) := s_callV mt_188 dL_law_1170 cl_8_145 mt_155 rfl rfl (Nat.le_add_left _ _) rfl rfl rfl rfl hcs
theorem e188_1173 (ho : j_one l6 = true) : Rn X d 188 1173 (l0 :: l1 :: l2 :: l3 :: l4 :: l5 :: l6 :: l7 :: l8 :: t) (.double g :: ST) M h = Rn X d 188 1175 (l0 :: l1 :: l2 :: l3 :: l4 :: l5 :: l6 :: some (.double g) :: none :: t) ST M h := r_dstore mt_188 dL_law_1173 (by show 8 < _; simp only [List.length_cons]; omega) ho rfl
theorem e188_1175 : Rn X d 188 1175 (l0 :: l1 :: l2 :: l3 :: l4 :: some (.double g) :: t) ST M h = Rn X d 188 1177 (l0 :: l1 :: l2 :: l3 :: l4 :: some (.double g) :: t) (.double g :: ST) M h := r_dload mt_188 dL_law_1175 rfl
theorem e188_1177 : Rn X d 188 1177 (l0 :: l1 :: l2 :: l3 :: l4 :: l5 :: l6 :: some (.double g) :: t) ST M h = Rn X d 188 1179 (l0 :: l1 :: l2 :: l3 :: l4 :: l5 :: l6 :: some (.double g) :: t) (.double g :: ST) M h := r_dload mt_188 dL_law_1177 rfl
theorem e188_1179 : Rn X d 188 1179 LS (.double f :: .double g :: ST) M h = Rn X d 188 1180 LS (.int (Op.cmpValue (FP.dcmp g f) .l) :: ST) M h := r_dcmp mt_188 dL_law_1179
theorem e188_1180 : Rn X d 188 1180 LS (.int x :: ST) M h = q_eq X x (zN 0) d 188 1201 1183 LS ST M h := s_ifeq mt_188 dL_law_1180 rfl
theorem e188_1183 : Rn X d 188 1183 (l0 :: l1 :: l2 :: l3 :: l4 :: some (.double g) :: t) ST M h = Rn X d 188 1185 (l0 :: l1 :: l2 :: l3 :: l4 :: some (.double g) :: t) (.double g :: ST) M h := r_dload mt_188 dL_law_1183 rfl
theorem e188_1185 : Rn X d 188 1185 (l0 :: l1 :: l2 :: l3 :: l4 :: some (.double g) :: t) ST M h = Rn X d 188 1187 (l0 :: l1 :: l2 :: l3 :: l4 :: some (.double g) :: t) (.double g :: ST) M h := r_dload mt_188 dL_law_1185 rfl
theorem e188_1187 : Rn X d 188 1187 LS (.double f :: .double g :: ST) M h = Rn X d 188 1188 LS (.int (Op.cmpValue (FP.dcmp g f) .l) :: ST) M h := r_dcmp mt_188 dL_law_1187
theorem e188_1188 : Rn X d 188 1188 LS (.int x :: ST) M h = q_eq X x (zN 0) d 188 1199 1191 LS ST M h := s_ifeq mt_188 dL_law_1188 rfl
theorem e188_1191 : Rn X d 188 1191 (l0 :: l1 :: l2 :: l3 :: l4 :: l5 :: l6 :: some (.double g) :: t) ST M h = Rn X d 188 1193 (l0 :: l1 :: l2 :: l3 :: l4 :: l5 :: l6 :: some (.double g) :: t) (.double g :: ST) M h := r_dload mt_188 dL_law_1191 rfl
theorem e188_1193 : Rn X d 188 1193 (l0 :: l1 :: l2 :: l3 :: l4 :: l5 :: l6 :: some (.double g) :: t) ST M h = Rn X d 188 1195 (l0 :: l1 :: l2 :: l3 :: l4 :: l5 :: l6 :: some (.double g) :: t) (.double g :: ST) M h := r_dload mt_188 dL_law_1193 rfl
theorem e188_1195 : Rn X d 188 1195 LS (.double f :: .double g :: ST) M h = Rn X d 188 1196 LS (.int (Op.cmpValue (FP.dcmp g f) .l) :: ST) M h := r_dcmp mt_188 dL_law_1195
theorem e188_1196 : Rn X d 188 1196 LS (.int x :: ST) M h = q_eq X x (zN 0) d 188 1199 1201 LS ST M h := s_ifne mt_188 dL_law_1196 rfl
theorem e188_1199 : Rn X d 188 1199 LS ST M h = Rn X d 188 1200 LS (.int (zN 0) :: ST) M h := r_iconst mt_188 dL_law_1199 c_ic0
theorem e188_1200 {v : Nat} (h0 : v < 2) : Rn X d 188 1200 LS ([.int (zN v)]) M h = some (.inl (some (.int (zN v))), M, h) := s_zret mt_188 dL_law_1200 rfl h0
theorem e188_1201 : Rn X d 188 1201 LS ST M h = Rn X d 188 1344 LS ST M h := r_goto mt_188 dL_law_1201 rfl
theorem e188_1204 : Rn X d 188 1204 (l0 :: some (.ref a) :: t) ST M h = Rn X d 188 1205 (l0 :: some (.ref a) :: t) (.ref a :: ST) M h := r_aload_n mt_188 dL_law_1204 rfl
theorem e188_1205 : Rn X d 188 1205 (some (.ref a) :: t) ST M h = Rn X d 188 1206 (some (.ref a) :: t) (.ref a :: ST) M h := r_aload_n mt_188 dL_law_1205 rfl
theorem e188_1206 : Rn X d 188 1206 (l0 :: l1 :: l2 :: l3 :: some (.int x) :: t) ST M h = Rn X d 188 1208 (l0 :: l1 :: l2 :: l3 :: some (.int x) :: t) (.int x :: ST) M h := r_iload mt_188 dL_law_1206 rfl
theorem e188_1208 : Rn X d 188 1208 LS ST M h = Rn X d 188 1209 LS (.int (zN 1) :: ST) M h := r_iconst mt_188 dL_law_1208 c_ic1
theorem e188_1209 : Rn X d 188 1209 LS (.int y :: .int x :: ST) M h = Rn X d 188 1210 LS (.int (x + y) :: ST) M h := r_iadd mt_188 dL_law_1209
theorem e188_1210 : Rn X d 188 1210 LS (.int x :: .ref a :: ST) M h = q_ld X (M a) a x d 188 1211 LS ST M h := s_iald mt_188 dL_law_1210
theorem e188_1211 : Rn X d 188 1211 (l0 :: l1 :: l2 :: some (.ref a) :: t) ST M h = Rn X d 188 1212 (l0 :: l1 :: l2 :: some (.ref a) :: t) (.ref a :: ST) M h := r_aload_n mt_188 dL_law_1211 rfl
theorem e188_1212 (hcs : Nat.ble (j_cs ST) 8 = true) : Rn X (d + 1) 188 1212 LS (.ref b :: .int x :: .ref a :: ST) M h = q_k X (Rn X d 186 0 [some (.ref a), some (.int x), some (.ref b), none] [] M (j_h0 h)) h (d + 1) 188 1215 LS ST := s_callS (Or.inr (Or.inl rfl)) mt_188 dL_law_1212 cl_8_146 mt_186 rfl (Nat.le_add_left _ _) rfl rfl rfl rfl hcs
theorem e188_1215 (ho : j_one l4 = true) : Rn X d 188 1215 (l0 :: l1 :: l2 :: l3 :: l4 :: l5 :: t) (.int x :: ST) M h = Rn X d 188 1217 (l0 :: l1 :: l2 :: l3 :: l4 :: some (.int x) :: t) ST M h := r_istore mt_188 dL_law_1215 (by show 5 < _; simp only [List.length_cons]; omega) ho rfl
theorem e188_1217 : Rn X d 188 1217 (l0 :: l1 :: some (.ref a) :: t) ST M h = Rn X d 188 1218 (l0 :: l1 :: some (.ref a) :: t) (.ref a :: ST) M h := r_aload_n mt_188 dL_law_1217 rfl
theorem e188_1218 : Rn X d 188 1218 (some (.ref a) :: t) ST M h = Rn X d 188 1219 (some (.ref a) :: t) (.ref a :: ST) M h := r_aload_n mt_188 dL_law_1218 rfl
theorem e188_1219 : Rn X d 188 1219 (l0 :: l1 :: l2 :: l3 :: some (.int x) :: t) ST M h = Rn X d 188 1221 (l0 :: l1 :: l2 :: l3 :: some (.int x) :: t) (.int x :: ST) M h := r_iload mt_188 dL_law_1219 rfl
theorem e188_1221 : Rn X d 188 1221 LS ST M h = Rn X d 188 1222 LS (.int (zN 1) :: ST) M h := r_iconst mt_188 dL_law_1221 c_ic1
theorem e188_1222 : Rn X d 188 1222 LS (.int y :: .int x :: ST) M h = Rn X d 188 1223 LS (.int (x + y) :: ST) M h := r_iadd mt_188 dL_law_1222
theorem e188_1223 : Rn X d 188 1223 LS (.int x :: .ref a :: ST) M h = q_ld X (M a) a x d 188 1224 LS ST M h := s_iald mt_188 dL_law_1223
theorem e188_1224 (hcs : Nat.ble (j_cs ST) 8 = true) : Rn X (d + 1) 188 1224 LS (.int x :: .ref a :: ST) M h = j_rc (M a) 5 (q_k X (Rn X d 156 0 [some (.ref a), some (.int x)] [] M (j_h0 h)) h (d + 1) 188 1227 LS ST) := s_callV mt_188 dL_law_1224 cl_8_148 mt_156 rfl rfl (Nat.le_add_left _ _) rfl rfl rfl rfl hcs
theorem e188_1227 (ho : j_one l5 = true) : Rn X d 188 1227 (l0 :: l1 :: l2 :: l3 :: l4 :: l5 :: l6 :: t) (.int x :: ST) M h = Rn X d 188 1229 (l0 :: l1 :: l2 :: l3 :: l4 :: l5 :: some (.int x) :: t) ST M h := r_istore mt_188 dL_law_1227 (by show 6 < _; simp only [List.length_cons]; omega) ho rfl
theorem e188_1229 : Rn X d 188 1229 (l0 :: l1 :: some (.ref a) :: t) ST M h = Rn X d 188 1230 (l0 :: l1 :: some (.ref a) :: t) (.ref a :: ST) M h := r_aload_n mt_188 dL_law_1229 rfl
theorem e188_1230 (hcs : Nat.ble (j_cs ST) 8 = true) : Rn X (d + 1) 188 1230 LS (.ref a :: ST) M h = j_rc (M a) 5 (q_k X (Rn X d 101 0 [some (.ref a)] [] M (j_h0 h)) h (d + 1) 188 1233 LS ST) := s_callV mt_188 dL_law_1230 cl_8_81 mt_101 rfl rfl (Nat.le_add_left _ _) rfl rfl rfl rfl hcs
theorem e188_1233 : Rn X d 188 1233 (l0 :: l1 :: l2 :: l3 :: l4 :: some (.int x) :: t) ST M h = Rn X d 188 1235 (l0 :: l1 :: l2 :: l3 :: l4 :: some (.int x) :: t) (.int x :: ST) M h := r_iload mt_188 dL_law_1233 rfl
theorem e188_1235 : Rn X d 188 1235 LS (.int y :: .int x :: ST) M h = q_eq X x y d 188 1240 1238 LS ST M h := s_iceq mt_188 dL_law_1235 rfl
theorem e188_1238 : Rn X d 188 1238 LS ST M h = Rn X d 188 1239 LS (.int (zN 0) :: ST) M h := r_iconst mt_188 dL_law_1238 c_ic0
theorem e188_1239 {v : Nat} (h0 : v < 2) : Rn X d 188 1239 LS ([.int (zN v)]) M h = some (.inl (some (.int (zN v))), M, h) := s_zret mt_188 dL_law_1239 rfl h0
theorem e188_1240 : Rn X d 188 1240 (l0 :: l1 :: l2 :: l3 :: l4 :: some (.int x) :: t) ST M h = Rn X d 188 1242 (l0 :: l1 :: l2 :: l3 :: l4 :: some (.int x) :: t) (.int x :: ST) M h := r_iload mt_188 dL_law_1240 rfl
theorem e188_1242 : Rn X d 188 1242 LS (.int x :: ST) M h = q_eq X x (zN 0) d 188 1245 1257 LS ST M h := s_ifne mt_188 dL_law_1242 rfl
theorem e188_1245 : Rn X d 188 1245 (l0 :: l1 :: l2 :: some (.ref a) :: t) ST M h = Rn X d 188 1246 (l0 :: l1 :: l2 :: some (.ref a) :: t) (.ref a :: ST) M h := r_aload_n mt_188 dL_law_1245 rfl
theorem e188_1246 : Rn X d 188 1246 LS ST M h = Rn X d 188 1247 LS (.int (zN 0) :: ST) M h := r_iconst mt_188 dL_law_1246 c_ic0
theorem e188_1247 : Rn X d 188 1247 LS (.int x :: .ref a :: ST) M h = q_lJ X (M a) x d 188 1248 LS ST M h := s_lald mt_188 dL_law_1247
theorem e188_1248 : Rn X d 188 1248 (l0 :: l1 :: l2 :: l3 :: l4 :: l5 :: some (.int x) :: t) ST M h = Rn X d 188 1250 (l0 :: l1 :: l2 :: l3 :: l4 :: l5 :: some (.int x) :: t) (.int x :: ST) M h := r_iload mt_188 dL_law_1248 rfl
theorem e188_1250 : Rn X d 188 1250 LS (.int x :: ST) M h = Rn X d 188 1251 LS (.long x.toInt64 :: ST) M h := r_i2l mt_188 dL_law_1250
theorem e188_1251 : Rn X d 188 1251 LS (.long q :: .long p :: ST) M h = Rn X d 188 1252 LS (.int (lg_cmp p q) :: ST) M h := r_lcmp mt_188 dL_law_1251
theorem e188_1252 : Rn X d 188 1252 LS (.int x :: ST) M h = q_eq X x (zN 0) d 188 1257 1255 LS ST M h := s_ifeq mt_188 dL_law_1252 rfl
theorem e188_1255 : Rn X d 188 1255 LS ST M h = Rn X d 188 1256 LS (.int (zN 0) :: ST) M h := r_iconst mt_188 dL_law_1255 c_ic0
theorem e188_1256 {v : Nat} (h0 : v < 2) : Rn X d 188 1256 LS ([.int (zN v)]) M h = some (.inl (some (.int (zN v))), M, h) := s_zret mt_188 dL_law_1256 rfl h0
theorem e188_1257 : Rn X d 188 1257 LS ST M h = Rn X d 188 1344 LS ST M h := r_goto mt_188 dL_law_1257 rfl
theorem e188_1260 : Rn X d 188 1260 (l0 :: some (.ref a) :: t) ST M h = Rn X d 188 1261 (l0 :: some (.ref a) :: t) (.ref a :: ST) M h := r_aload_n mt_188 dL_law_1260 rfl
theorem e188_1261 (hcs : Nat.ble (j_cs ST) 8 = true) : Rn X (d + 1) 188 1261 LS (.ref a :: ST) M h = j_rc (M a) 4 (q_k X (Rn X d 82 0 [some (.ref a)] [] M (j_h0 h)) h (d + 1) 188 1264 LS ST) := s_callV mt_188 dL_law_1261 cl_8_149 mt_82 rfl rfl (Nat.le_add_left _ _) rfl rfl rfl rfl hcs
theorem e188_1264 : Rn X d 188 1264 (l0 :: l1 :: some (.ref a) :: t) ST M h = Rn X d 188 1265 (l0 :: l1 :: some (.ref a) :: t) (.ref a :: ST) M h := r_aload_n mt_188 dL_law_1264 rfl
theorem e188_1265 (hcs : Nat.ble (j_cs ST) 8 = true) : Rn X (d + 1) 188 1265 LS (.ref a :: ST) M h = j_rc (M a) 5 (q_k X (Rn X d 157 0 [some (.ref a), none] [] M (j_h0 h)) h (d + 1) 188 1268 LS ST) := s_callV mt_188 dL_law_1265 cl_8_152 mt_157 rfl rfl (Nat.le_add_left _ _) rfl rfl rfl rfl hcs
theorem e188_1268 : Rn X d 188 1268 LS (.int y :: .int x :: ST) M h = q_eq X x y d 188 1344 1271 LS ST M h := s_iceq mt_188 dL_law_1268 rfl
theorem e188_1271 : Rn X d 188 1271 LS ST M h = Rn X d 188 1272 LS (.int (zN 0) :: ST) M h := r_iconst mt_188 dL_law_1271 c_ic0
theorem e188_1272 {v : Nat} (h0 : v < 2) : Rn X d 188 1272 LS ([.int (zN v)]) M h = some (.inl (some (.int (zN v))), M, h) := s_zret mt_188 dL_law_1272 rfl h0
theorem e188_1273 : Rn X d 188 1273 (l0 :: some (.ref a) :: t) ST M h = Rn X d 188 1274 (l0 :: some (.ref a) :: t) (.ref a :: ST) M h := r_aload_n mt_188 dL_law_1273 rfl
theorem e188_1274 (hcs : Nat.ble (j_cs ST) 8 = true) : Rn X (d + 1) 188 1274 LS (.ref a :: ST) M h = j_rc (M a) 4 (q_k X (Rn X d 83 0 [some (.ref a), none, none] [] M (j_h0 h)) h (d + 1) 188 1277 LS ST) := s_callV mt_188 dL_law_1274 cl_8_153 mt_83 rfl rfl (Nat.le_add_left _ _) rfl rfl rfl rfl hcs
theorem e188_1277 : Rn X d 188 1277 (l0 :: l1 :: some (.ref a) :: t) ST M h = Rn X d 188 1278 (l0 :: l1 :: some (.ref a) :: t) (.ref a :: ST) M h := r_aload_n mt_188 dL_law_1277 rfl
theorem e188_1278 (hcs : Nat.ble (j_cs ST) 8 = true) : Rn X (d + 1) 188 1278 LS (.ref a :: ST) M h = j_rc (M a) 5 (q_k X (Rn X d 167 0 [some (.ref a), none, none] [] M (j_h0 h)) h (d + 1) 188 1281 LS ST) := s_callV mt_188 dL_law_1278 cl_8_156 mt_167 rfl rfl (Nat.le_add_left _ _) rfl rfl rfl rfl hcs
theorem e188_1281 : Rn X d 188 1281 LS (.int y :: .int x :: ST) M h = q_eq X x y d 188 1344 1284 LS ST M h := s_iceq mt_188 dL_law_1281 rfl
theorem e188_1284 : Rn X d 188 1284 LS ST M h = Rn X d 188 1285 LS (.int (zN 0) :: ST) M h := r_iconst mt_188 dL_law_1284 c_ic0
theorem e188_1285 {v : Nat} (h0 : v < 2) : Rn X d 188 1285 LS ([.int (zN v)]) M h = some (.inl (some (.int (zN v))), M, h) := s_zret mt_188 dL_law_1285 rfl h0
theorem e188_1286 : Rn X d 188 1286 (l0 :: some (.ref a) :: t) ST M h = Rn X d 188 1287 (l0 :: some (.ref a) :: t) (.ref a :: ST) M h := r_aload_n mt_188 dL_law_1286 rfl
theorem e188_1287 : Rn X d 188 1287 (l0 :: l1 :: l2 :: some (.ref a) :: t) ST M h = Rn X d 188 1288 (l0 :: l1 :: l2 :: some (.ref a) :: t) (.ref a :: ST) M h := r_aload_n mt_188 dL_law_1287 rfl
theorem e188_1288 (hcs : Nat.ble (j_cs ST) 8 = true) : Rn X (d + 1) 188 1288 LS (.ref b :: .ref a :: ST) M h = q_k X (Rn X d 187 0 [some (.ref a), some (.ref b), none] [] M (j_h0 h)) h (d + 1) 188 1291 LS ST := s_callS (Or.inr (Or.inl rfl)) mt_188 dL_law_1288 cl_8_157 mt_187 rfl (Nat.le_add_left _ _) rfl rfl rfl rfl hcs
theorem e188_1291 (ho : j_one l4 = true) : Rn X d 188 1291 (l0 :: l1 :: l2 :: l3 :: l4 :: l5 :: t) (.int x :: ST) M h = Rn X d 188 1293 (l0 :: l1 :: l2 :: l3 :: l4 :: some (.int x) :: t) ST M h := r_istore mt_188 dL_law_1291 (by show 5 < _; simp only [List.length_cons]; omega) ho rfl
theorem e188_1293 : Rn X d 188 1293 (l0 :: l1 :: some (.ref a) :: t) ST M h = Rn X d 188 1294 (l0 :: l1 :: some (.ref a) :: t) (.ref a :: ST) M h := r_aload_n mt_188 dL_law_1293 rfl
theorem e188_1294 (hcs : Nat.ble (j_cs ST) 8 = true) : Rn X (d + 1) 188 1294 LS (.ref a :: ST) M h = j_rc (M a) 5 (q_k X (Rn X d 117 0 [some (.ref a), none] [] M (j_h0 h)) h (d + 1) 188 1297 LS ST) := s_callV mt_188 dL_law_1294 cl_8_160 mt_117 rfl rfl (Nat.le_add_left _ _) rfl rfl rfl rfl hcs
theorem e188_1297 (ho : j_one l5 = true) : Rn X d 188 1297 (l0 :: l1 :: l2 :: l3 :: l4 :: l5 :: l6 :: t) (.int x :: ST) M h = Rn X d 188 1299 (l0 :: l1 :: l2 :: l3 :: l4 :: l5 :: some (.int x) :: t) ST M h := r_istore mt_188 dL_law_1297 (by show 6 < _; simp only [List.length_cons]; omega) ho rfl
theorem e188_1299 : Rn X d 188 1299 (l0 :: l1 :: some (.ref a) :: t) ST M h = Rn X d 188 1300 (l0 :: l1 :: some (.ref a) :: t) (.ref a :: ST) M h := r_aload_n mt_188 dL_law_1299 rfl
theorem e188_1300 (hcs : Nat.ble (j_cs ST) 8 = true) : Rn X (d + 1) 188 1300 LS (.ref a :: ST) M h = j_rc (M a) 5 (q_k X (Rn X d 101 0 [some (.ref a)] [] M (j_h0 h)) h (d + 1) 188 1303 LS ST) := s_callV mt_188 dL_law_1300 cl_8_81 mt_101 rfl rfl (Nat.le_add_left _ _) rfl rfl rfl rfl hcs
theorem e188_1303 : Rn X d 188 1303 (l0 :: l1 :: l2 :: l3 :: l4 :: some (.int x) :: t) ST M h = Rn X d 188 1305 (l0 :: l1 :: l2 :: l3 :: l4 :: some (.int x) :: t) (.int x :: ST) M h := r_iload mt_188 dL_law_1303 rfl
theorem e188_1305 : Rn X d 188 1305 LS (.int y :: .int x :: ST) M h = q_eq X x y d 188 1310 1308 LS ST M h := s_iceq mt_188 dL_law_1305 rfl
theorem e188_1308 : Rn X d 188 1308 LS ST M h = Rn X d 188 1309 LS (.int (zN 0) :: ST) M h := r_iconst mt_188 dL_law_1308 c_ic0
theorem e188_1309 {v : Nat} (h0 : v < 2) : Rn X d 188 1309 LS ([.int (zN v)]) M h = some (.inl (some (.int (zN v))), M, h) := s_zret mt_188 dL_law_1309 rfl h0
theorem e188_1310 : Rn X d 188 1310 (l0 :: l1 :: l2 :: l3 :: l4 :: some (.int x) :: t) ST M h = Rn X d 188 1312 (l0 :: l1 :: l2 :: l3 :: l4 :: some (.int x) :: t) (.int x :: ST) M h := r_iload mt_188 dL_law_1310 rfl
theorem e188_1312 : Rn X d 188 1312 LS (.int x :: ST) M h = q_eq X x (zN 0) d 188 1315 1327 LS ST M h := s_ifne mt_188 dL_law_1312 rfl
theorem e188_1315 : Rn X d 188 1315 (l0 :: l1 :: l2 :: some (.ref a) :: t) ST M h = Rn X d 188 1316 (l0 :: l1 :: l2 :: some (.ref a) :: t) (.ref a :: ST) M h := r_aload_n mt_188 dL_law_1315 rfl
theorem e188_1316 : Rn X d 188 1316 LS ST M h = Rn X d 188 1317 LS (.int (zN 0) :: ST) M h := r_iconst mt_188 dL_law_1316 c_ic0
theorem e188_1317 : Rn X d 188 1317 LS (.int x :: .ref a :: ST) M h = q_lJ X (M a) x d 188 1318 LS ST M h := s_lald mt_188 dL_law_1317
theorem e188_1318 : Rn X d 188 1318 (l0 :: l1 :: l2 :: l3 :: l4 :: l5 :: some (.int x) :: t) ST M h = Rn X d 188 1320 (l0 :: l1 :: l2 :: l3 :: l4 :: l5 :: some (.int x) :: t) (.int x :: ST) M h := r_iload mt_188 dL_law_1318 rfl
theorem e188_1320 : Rn X d 188 1320 LS (.int x :: ST) M h = Rn X d 188 1321 LS (.long x.toInt64 :: ST) M h := r_i2l mt_188 dL_law_1320
theorem e188_1321 : Rn X d 188 1321 LS (.long q :: .long p :: ST) M h = Rn X d 188 1322 LS (.int (lg_cmp p q) :: ST) M h := r_lcmp mt_188 dL_law_1321
theorem e188_1322 : Rn X d 188 1322 LS (.int x :: ST) M h = q_eq X x (zN 0) d 188 1327 1325 LS ST M h := s_ifeq mt_188 dL_law_1322 rfl
theorem e188_1325 : Rn X d 188 1325 LS ST M h = Rn X d 188 1326 LS (.int (zN 0) :: ST) M h := r_iconst mt_188 dL_law_1325 c_ic0
theorem e188_1326 {v : Nat} (h0 : v < 2) : Rn X d 188 1326 LS ([.int (zN v)]) M h = some (.inl (some (.int (zN v))), M, h) := s_zret mt_188 dL_law_1326 rfl h0
theorem e188_1327 : Rn X d 188 1327 LS ST M h = Rn X d 188 1344 LS ST M h := r_goto mt_188 dL_law_1327 rfl
theorem e188_1330 : Rn X d 188 1330 (l0 :: some (.ref a) :: t) ST M h = Rn X d 188 1331 (l0 :: some (.ref a) :: t) (.ref a :: ST) M h := r_aload_n mt_188 dL_law_1330 rfl
theorem e188_1331 (hcs : Nat.ble (j_cs ST) 8 = true) : Rn X (d + 1) 188 1331 LS (.ref a :: ST) M h = j_rc (M a) 4 (q_k X (Rn X d 85 0 [some (.ref a), none, none, none] [] M (j_h0 h)) h (d + 1) 188 1334 LS ST) := s_callV mt_188 dL_law_1331 cl_8_161 mt_85 rfl rfl (Nat.le_add_left _ _) rfl rfl rfl rfl hcs
theorem e188_1334 : Rn X d 188 1334 (l0 :: l1 :: some (.ref a) :: t) ST M h = Rn X d 188 1335 (l0 :: l1 :: some (.ref a) :: t) (.ref a :: ST) M h := r_aload_n mt_188 dL_law_1334 rfl
theorem e188_1335 (hcs : Nat.ble (j_cs ST) 8 = true) : Rn X (d + 1) 188 1335 LS (.ref a :: ST) M h = j_rc (M a) 5 (q_k X (Rn X d 169 0 [some (.ref a), none, none] [] M (j_h0 h)) h (d + 1) 188 1338 LS ST) := s_callV mt_188 dL_law_1335 cl_8_165 mt_169 rfl rfl (Nat.le_add_left _ _) rfl rfl rfl rfl hcs
theorem e188_1338 : Rn X d 188 1338 LS (.long q :: .long p :: ST) M h = Rn X d 188 1339 LS (.int (lg_cmp p q) :: ST) M h := r_lcmp mt_188 dL_law_1338
theorem e188_1339 : Rn X d 188 1339 LS (.int x :: ST) M h = q_eq X x (zN 0) d 188 1344 1342 LS ST M h := s_ifeq mt_188 dL_law_1339 rfl
theorem e188_1342 : Rn X d 188 1342 LS ST M h = Rn X d 188 1343 LS (.int (zN 0) :: ST) M h := r_iconst mt_188 dL_law_1342 c_ic0
theorem e188_1343 {v : Nat} (h0 : v < 2) : Rn X d 188 1343 LS ([.int (zN v)]) M h = some (.inl (some (.int (zN v))), M, h) := s_zret mt_188 dL_law_1343 rfl h0
theorem e188_1344 (ho : j_one l3 = true) : Rn X d 188 1344 (l0 :: l1 :: l2 :: l3 :: some (.int x) :: t) ST M h = Rn X d 188 1347 (l0 :: l1 :: l2 :: l3 :: some (.int (x + (zN 5))) :: t) ST M h := r_iinc mt_188 dL_law_1344 rfl (by simp only [List.length_cons]; omega) ho c_ic5 rfl
theorem e188_1347 : Rn X d 188 1347 LS ST M h = Rn X d 188 23 LS ST M h := r_goto mt_188 dL_law_1347 rfl
theorem e188_1350 : Rn X d 188 1350 LS ST M h = Rn X d 188 1351 LS (.int (zN 1) :: ST) M h := r_iconst mt_188 dL_law_1350 c_ic1
theorem e188_1351 {v : Nat} (h0 : v < 2) : Rn X d 188 1351 LS ([.int (zN v)]) M h = some (.inl (some (.int (zN v))), M, h) := s_zret mt_188 dL_law_1351 rfl h0
end
