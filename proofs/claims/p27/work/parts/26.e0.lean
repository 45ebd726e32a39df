/-! one rule an instruction, printed by wip/p27/gen25.py -/
section
variable {X : jX} {d : Nat} {l0 l1 l2 l3 l4 l5 l6 l7 l8 l9 l10 l11 : Option Value} {LS t : jL} {ST : List Value} {M : jM} {h : jH} {x y z w u : Int32} {a b c e : Nat} {p q : Int64} {f g : UInt64}
theorem e0_0 : Rn X d 0 0 (some (.ref a) :: t) ST M h = Rn X d 0 1 (some (.ref a) :: t) (.ref a :: ST) M h := r_aload_n mt_0 dX0_init_0 rfl
theorem e0_1 (hcs : Nat.ble (j_cs ST) 8 = true) : Rn X (d + 1) 0 1 LS (.ref a :: ST) M h = Rn X (d + 1) 0 4 LS ST M h := s_obj mt_0 dX0_init_1 cl_0_3 hcs
theorem e0_4 : Rn X d 0 4 (some (.ref a) :: t) ST M h = Rn X d 0 5 (some (.ref a) :: t) (.ref a :: ST) M h := r_aload_n mt_0 dX0_init_4 rfl
theorem e0_5 : Rn X d 0 5 LS ST M h = Rn X d 0 7 LS (.int (zN 32) :: ST) M h := r_bipush mt_0 dX0_init_5 c_bi32
theorem e0_7 {n v c z : Nat} (h0 : n < 1000) (h1 : v ≤ 1000) : Rn X d 0 7 LS (.int (zN v) :: ST) M (n, true, c, z) = Rn X d 0 9 LS (.ref n :: ST) (va_up M n (.inl (0, v, .inl (fun _ => 0)))) (n + 1, true, c + 1, z + v) := s_newI mt_0 dX0_init_7 h0 h1
theorem e0_9 : Rn X d 0 9 LS (.ref b :: .ref a :: ST) M h = q_p X (M a) a 0 3 (.ref b) d 0 12 LS ST M h := s_putF mt_0 dX0_init_9 f_0_9 rfl (by decide +kernel) rfl rfl
theorem e0_12 : Rn X d 0 12 (some (.ref a) :: t) ST M h = Rn X d 0 13 (some (.ref a) :: t) (.ref a :: ST) M h := r_aload_n mt_0 dX0_init_12 rfl
theorem e0_13 : Rn X d 0 13 LS ST M h = Rn X d 0 15 LS (.int (zN 32) :: ST) M h := r_bipush mt_0 dX0_init_13 c_bi32
theorem e0_15 {n v c z : Nat} (h0 : n < 1000) (h1 : v ≤ 1000) : Rn X d 0 15 LS (.int (zN v) :: ST) M (n, true, c, z) = Rn X d 0 17 LS (.ref n :: ST) (va_up M n (.inl (0, v, .inl (fun _ => 0)))) (n + 1, true, c + 1, z + v) := s_newI mt_0 dX0_init_15 h0 h1
theorem e0_17 : Rn X d 0 17 LS (.ref b :: .ref a :: ST) M h = q_p X (M a) a 0 4 (.ref b) d 0 20 LS ST M h := s_putF mt_0 dX0_init_17 f_0_15 rfl (by decide +kernel) rfl rfl
theorem e0_20 : Rn X d 0 20 (some (.ref a) :: t) ST M h = Rn X d 0 21 (some (.ref a) :: t) (.ref a :: ST) M h := r_aload_n mt_0 dX0_init_20 rfl
theorem e0_21 : Rn X d 0 21 LS ST M h = Rn X d 0 23 LS (.int (zN 32) :: ST) M h := r_bipush mt_0 dX0_init_21 c_bi32
theorem e0_23 {n v c z : Nat} (h0 : n < 1000) (h1 : v ≤ 1000) : Rn X d 0 23 LS (.int (zN v) :: ST) M (n, true, c, z) = Rn X d 0 25 LS (.ref n :: ST) (va_up M n (.inl (0, v, .inl (fun _ => 0)))) (n + 1, true, c + 1, z + v) := s_newI mt_0 dX0_init_23 h0 h1
theorem e0_25 : Rn X d 0 25 LS (.ref b :: .ref a :: ST) M h = q_p X (M a) a 0 5 (.ref b) d 0 28 LS ST M h := s_putF mt_0 dX0_init_25 f_0_18 rfl (by decide +kernel) rfl rfl
theorem e0_28 : Rn X d 0 28 (some (.ref a) :: t) ST M h = Rn X d 0 29 (some (.ref a) :: t) (.ref a :: ST) M h := r_aload_n mt_0 dX0_init_28 rfl
theorem e0_29 : Rn X d 0 29 LS ST M h = Rn X d 0 31 LS (.int (zN 32) :: ST) M h := r_bipush mt_0 dX0_init_29 c_bi32
theorem e0_31 {n v c z : Nat} (h0 : n < 1000) (h1 : v ≤ 1000) : Rn X d 0 31 LS (.int (zN v) :: ST) M (n, true, c, z) = Rn X d 0 33 LS (.ref n :: ST) (va_up M n (.inl (0, v, .inl (fun _ => 0)))) (n + 1, true, c + 1, z + v) := s_newI mt_0 dX0_init_31 h0 h1
theorem e0_33 : Rn X d 0 33 LS (.ref b :: .ref a :: ST) M h = q_p X (M a) a 0 6 (.ref b) d 0 36 LS ST M h := s_putF mt_0 dX0_init_33 f_0_21 rfl (by decide +kernel) rfl rfl
theorem e0_36 : Rn X d 0 36 (some (.ref a) :: t) ST M h = Rn X d 0 37 (some (.ref a) :: t) (.ref a :: ST) M h := r_aload_n mt_0 dX0_init_36 rfl
theorem e0_37 : Rn X d 0 37 LS ST M h = Rn X d 0 39 LS (.int (zN 32) :: ST) M h := r_bipush mt_0 dX0_init_37 c_bi32
theorem e0_39 {n v c z : Nat} (h0 : n < 1000) (h1 : v ≤ 1000) : Rn X d 0 39 LS (.int (zN v) :: ST) M (n, true, c, z) = Rn X d 0 41 LS (.ref n :: ST) (va_up M n (.inl (0, v, .inl (fun _ => 0)))) (n + 1, true, c + 1, z + v) := s_newI mt_0 dX0_init_39 h0 h1
theorem e0_41 : Rn X d 0 41 LS (.ref b :: .ref a :: ST) M h = q_p X (M a) a 0 7 (.ref b) d 0 44 LS ST M h := s_putF mt_0 dX0_init_41 f_0_24 rfl (by decide +kernel) rfl rfl
theorem e0_44 : Rn X d 0 44 LS [] M h = some (.inl none, M, h) := r_vret mt_0 dX0_init_44 rfl
theorem e1_0 : Rn X d 1 0 (some (.int x) :: t) ST M h = Rn X d 1 1 (some (.int x) :: t) (.int x :: ST) M h := r_iload_n mt_1 dX0_slot_0 rfl
theorem e1_1 : Rn X d 1 1 LS ST M h = Rn X d 1 3 LS (.int (zN 31) :: ST) M h := r_bipush mt_1 dX0_slot_1 c_bi31
theorem e1_3 : Rn X d 1 3 LS (.int y :: .int x :: ST) M h = Rn X d 1 4 LS (.int (x &&& y) :: ST) M h := r_iand mt_1 dX0_slot_3
theorem e1_4 : Rn X d 1 4 LS ([.int x]) M h = some (.inl (some (.int x)), M, h) := r_iret mt_1 dX0_slot_4 rfl
theorem e2_0 : Rn X d 2 0 (some (.ref a) :: t) ST M h = Rn X d 2 1 (some (.ref a) :: t) (.ref a :: ST) M h := r_aload_n mt_2 dX0_restart_0 rfl
theorem e2_1 : Rn X d 2 1 (l0 :: some (.int x) :: t) ST M h = Rn X d 2 2 (l0 :: some (.int x) :: t) (.int x :: ST) M h := r_iload_n mt_2 dX0_restart_1 rfl
theorem e2_2 : Rn X d 2 2 LS (.int x :: .ref a :: ST) M h = q_p X (M a) a 0 0 (.int x) d 2 5 LS ST M h := s_putN mt_2 dX0_restart_2 f_0_27 rfl rfl rfl
theorem e2_5 : Rn X d 2 5 (some (.ref a) :: t) ST M h = Rn X d 2 6 (some (.ref a) :: t) (.ref a :: ST) M h := r_aload_n mt_2 dX0_restart_5 rfl
theorem e2_6 : Rn X d 2 6 LS ST M h = Rn X d 2 7 LS (.int (zN 0) :: ST) M h := r_iconst mt_2 dX0_restart_6 c_ic0
theorem e2_7 : Rn X d 2 7 LS (.int x :: .ref a :: ST) M h = q_p X (M a) a 0 1 (.int x) d 2 10 LS ST M h := s_putN mt_2 dX0_restart_7 f_0_31 rfl rfl rfl
theorem e2_10 : Rn X d 2 10 (some (.ref a) :: t) ST M h = Rn X d 2 11 (some (.ref a) :: t) (.ref a :: ST) M h := r_aload_n mt_2 dX0_restart_10 rfl
theorem e2_11 : Rn X d 2 11 LS ST M h = Rn X d 2 12 LS (.int (zN 0) :: ST) M h := r_iconst mt_2 dX0_restart_11 c_ic0
theorem e2_12 : Rn X d 2 12 LS (.int x :: .ref a :: ST) M h = q_p X (M a) a 0 2 (.int x) d 2 15 LS ST M h := s_putN mt_2 dX0_restart_12 f_0_34 rfl rfl rfl
theorem e2_15 : Rn X d 2 15 LS [] M h = some (.inl none, M, h) := r_vret mt_2 dX0_restart_15 rfl
theorem e3_0 : Rn X d 3 0 (some (.ref a) :: t) ST M h = Rn X d 3 1 (some (.ref a) :: t) (.ref a :: ST) M h := r_aload_n mt_3 dX0_copyFrom_0 rfl
theorem e3_1 : Rn X d 3 1 (l0 :: some (.ref a) :: t) ST M h = Rn X d 3 2 (l0 :: some (.ref a) :: t) (.ref a :: ST) M h := r_aload_n mt_3 dX0_copyFrom_1 rfl
theorem e3_2 : Rn X d 3 2 LS (.ref a :: ST) M h = q_g X (M a) 0 0 d 3 5 LS ST M h := s_get mt_3 dX0_copyFrom_2 f_0_27
theorem e3_5 : Rn X d 3 5 LS (.int x :: .ref a :: ST) M h = q_p X (M a) a 0 0 (.int x) d 3 8 LS ST M h := s_putN mt_3 dX0_copyFrom_5 f_0_27 rfl rfl rfl
theorem e3_8 : Rn X d 3 8 (some (.ref a) :: t) ST M h = Rn X d 3 9 (some (.ref a) :: t) (.ref a :: ST) M h := r_aload_n mt_3 dX0_copyFrom_8 rfl
theorem e3_9 : Rn X d 3 9 (l0 :: some (.ref a) :: t) ST M h = Rn X d 3 10 (l0 :: some (.ref a) :: t) (.ref a :: ST) M h := r_aload_n mt_3 dX0_copyFrom_9 rfl
theorem e3_10 : Rn X d 3 10 LS (.ref a :: ST) M h = q_g X (M a) 0 1 d 3 13 LS ST M h := s_get mt_3 dX0_copyFrom_10 f_0_31
theorem e3_13 : Rn X d 3 13 LS (.int x :: .ref a :: ST) M h = q_p X (M a) a 0 1 (.int x) d 3 16 LS ST M h := s_putN mt_3 dX0_copyFrom_13 f_0_31 rfl rfl rfl
theorem e3_16 : Rn X d 3 16 (some (.ref a) :: t) ST M h = Rn X d 3 17 (some (.ref a) :: t) (.ref a :: ST) M h := r_aload_n mt_3 dX0_copyFrom_16 rfl
theorem e3_17 : Rn X d 3 17 (l0 :: some (.ref a) :: t) ST M h = Rn X d 3 18 (l0 :: some (.ref a) :: t) (.ref a :: ST) M h := r_aload_n mt_3 dX0_copyFrom_17 rfl
theorem e3_18 : Rn X d 3 18 LS (.ref a :: ST) M h = q_g X (M a) 0 2 d 3 21 LS ST M h := s_get mt_3 dX0_copyFrom_18 f_0_34
theorem e3_21 : Rn X d 3 21 LS (.int x :: .ref a :: ST) M h = q_p X (M a) a 0 2 (.int x) d 3 24 LS ST M h := s_putN mt_3 dX0_copyFrom_21 f_0_34 rfl rfl rfl
theorem e3_24 : Rn X d 3 24 (l0 :: some (.ref a) :: t) ST M h = Rn X d 3 25 (l0 :: some (.ref a) :: t) (.ref a :: ST) M h := r_aload_n mt_3 dX0_copyFrom_24 rfl
theorem e3_25 : Rn X d 3 25 LS (.ref a :: ST) M h = q_g X (M a) 0 3 d 3 28 LS ST M h := s_get mt_3 dX0_copyFrom_25 f_0_9
theorem e3_28 : Rn X d 3 28 LS ST M h = Rn X d 3 29 LS (.int (zN 0) :: ST) M h := r_iconst mt_3 dX0_copyFrom_28 c_ic0
theorem e3_29 : Rn X d 3 29 (some (.ref a) :: t) ST M h = Rn X d 3 30 (some (.ref a) :: t) (.ref a :: ST) M h := r_aload_n mt_3 dX0_copyFrom_29 rfl
theorem e3_30 : Rn X d 3 30 LS (.ref a :: ST) M h = q_g X (M a) 0 3 d 3 33 LS ST M h := s_get mt_3 dX0_copyFrom_30 f_0_9
theorem e3_33 : Rn X d 3 33 LS ST M h = Rn X d 3 34 LS (.int (zN 0) :: ST) M h := r_iconst mt_3 dX0_copyFrom_33 c_ic0
theorem e3_34 : Rn X d 3 34 LS ST M h = Rn X d 3 36 LS (.int (zN 32) :: ST) M h := r_bipush mt_3 dX0_copyFrom_34 c_bi32
theorem e3_36 : Rn X (d + 1) 3 36 LS ([.int z, .int y, .ref b, .int x, .ref a]) M h = q_cp X (M a) (M b) b x y z (d + 1) 3 39 LS M h := s_cpy mt_3 dX0_copyFrom_36 cl_0_37
theorem e3_39 : Rn X d 3 39 (l0 :: some (.ref a) :: t) ST M h = Rn X d 3 40 (l0 :: some (.ref a) :: t) (.ref a :: ST) M h := r_aload_n mt_3 dX0_copyFrom_39 rfl
theorem e3_40 : Rn X d 3 40 LS (.ref a :: ST) M h = q_g X (M a) 0 4 d 3 43 LS ST M h := s_get mt_3 dX0_copyFrom_40 f_0_15
theorem e3_43 : Rn X d 3 43 LS ST M h = Rn X d 3 44 LS (.int (zN 0) :: ST) M h := r_iconst mt_3 dX0_copyFrom_43 c_ic0
theorem e3_44 : Rn X d 3 44 (some (.ref a) :: t) ST M h = Rn X d 3 45 (some (.ref a) :: t) (.ref a :: ST) M h := r_aload_n mt_3 dX0_copyFrom_44 rfl
theorem e3_45 : Rn X d 3 45 LS (.ref a :: ST) M h = q_g X (M a) 0 4 d 3 48 LS ST M h := s_get mt_3 dX0_copyFrom_45 f_0_15
theorem e3_48 : Rn X d 3 48 LS ST M h = Rn X d 3 49 LS (.int (zN 0) :: ST) M h := r_iconst mt_3 dX0_copyFrom_48 c_ic0
theorem e3_49 : Rn X d 3 49 LS ST M h = Rn X d 3 51 LS (.int (zN 32) :: ST) M h := r_bipush mt_3 dX0_copyFrom_49 c_bi32
theorem e3_51 : Rn X (d + 1) 3 51 LS ([.int z, .int y, .ref b, .int x, .ref a]) M h = q_cp X (M a) (M b) b x y z (d + 1) 3 54 LS M h := s_cpy mt_3 dX0_copyFrom_51 cl_0_37
theorem e3_54 : Rn X d 3 54 (l0 :: some (.ref a) :: t) ST M h = Rn X d 3 55 (l0 :: some (.ref a) :: t) (.ref a :: ST) M h := r_aload_n mt_3 dX0_copyFrom_54 rfl
theorem e3_55 : Rn X d 3 55 LS (.ref a :: ST) M h = q_g X (M a) 0 5 d 3 58 LS ST M h := s_get mt_3 dX0_copyFrom_55 f_0_18
theorem e3_58 : Rn X d 3 58 LS ST M h = Rn X d 3 59 LS (.int (zN 0) :: ST) M h := r_iconst mt_3 dX0_copyFrom_58 c_ic0
theorem e3_59 : Rn X d 3 59 (some (.ref a) :: t) ST M h = Rn X d 3 60 (some (.ref a) :: t) (.ref a :: ST) M h := r_aload_n mt_3 dX0_copyFrom_59 rfl
theorem e3_60 : Rn X d 3 60 LS (.ref a :: ST) M h = q_g X (M a) 0 5 d 3 63 LS ST M h := s_get mt_3 dX0_copyFrom_60 f_0_18
theorem e3_63 : Rn X d 3 63 LS ST M h = Rn X d 3 64 LS (.int (zN 0) :: ST) M h := r_iconst mt_3 dX0_copyFrom_63 c_ic0
theorem e3_64 : Rn X d 3 64 LS ST M h = Rn X d 3 66 LS (.int (zN 32) :: ST) M h := r_bipush mt_3 dX0_copyFrom_64 c_bi32
theorem e3_66 : Rn X (d + 1) 3 66 LS ([.int z, .int y, .ref b, .int x, .ref a]) M h = q_cp X (M a) (M b) b x y z (d + 1) 3 69 LS M h := s_cpy mt_3 dX0_copyFrom_66 cl_0_37
theorem e3_69 : Rn X d 3 69 (l0 :: some (.ref a) :: t) ST M h = Rn X d 3 70 (l0 :: some (.ref a) :: t) (.ref a :: ST) M h := r_aload_n mt_3 dX0_copyFrom_69 rfl
theorem e3_70 : Rn X d 3 70 LS (.ref a :: ST) M h = q_g X (M a) 0 6 d 3 73 LS ST M h := s_get mt_3 dX0_copyFrom_70 f_0_21
theorem e3_73 : Rn X d 3 73 LS ST M h = Rn X d 3 74 LS (.int (zN 0) :: ST) M h := r_iconst mt_3 dX0_copyFrom_73 c_ic0
theorem e3_74 : Rn X d 3 74 (some (.ref a) :: t) ST M h = Rn X d 3 75 (some (.ref a) :: t) (.ref a :: ST) M h := r_aload_n mt_3 dX0_copyFrom_74 rfl
theorem e3_75 : Rn X d 3 75 LS (.ref a :: ST) M h = q_g X (M a) 0 6 d 3 78 LS ST M h := s_get mt_3 dX0_copyFrom_75 f_0_21
theorem e3_78 : Rn X d 3 78 LS ST M h = Rn X d 3 79 LS (.int (zN 0) :: ST) M h := r_iconst mt_3 dX0_copyFrom_78 c_ic0
theorem e3_79 : Rn X d 3 79 LS ST M h = Rn X d 3 81 LS (.int (zN 32) :: ST) M h := r_bipush mt_3 dX0_copyFrom_79 c_bi32
theorem e3_81 : Rn X (d + 1) 3 81 LS ([.int z, .int y, .ref b, .int x, .ref a]) M h = q_cp X (M a) (M b) b x y z (d + 1) 3 84 LS M h := s_cpy mt_3 dX0_copyFrom_81 cl_0_37
theorem e3_84 : Rn X d 3 84 (l0 :: some (.ref a) :: t) ST M h = Rn X d 3 85 (l0 :: some (.ref a) :: t) (.ref a :: ST) M h := r_aload_n mt_3 dX0_copyFrom_84 rfl
theorem e3_85 : Rn X d 3 85 LS (.ref a :: ST) M h = q_g X (M a) 0 7 d 3 88 LS ST M h := s_get mt_3 dX0_copyFrom_85 f_0_24
theorem e3_88 : Rn X d 3 88 LS ST M h = Rn X d 3 89 LS (.int (zN 0) :: ST) M h := r_iconst mt_3 dX0_copyFrom_88 c_ic0
theorem e3_89 : Rn X d 3 89 (some (.ref a) :: t) ST M h = Rn X d 3 90 (some (.ref a) :: t) (.ref a :: ST) M h := r_aload_n mt_3 dX0_copyFrom_89 rfl
theorem e3_90 : Rn X d 3 90 LS (.ref a :: ST) M h = q_g X (M a) 0 7 d 3 93 LS ST M h := s_get mt_3 dX0_copyFrom_90 f_0_24
theorem e3_93 : Rn X d 3 93 LS ST M h = Rn X d 3 94 LS (.int (zN 0) :: ST) M h := r_iconst mt_3 dX0_copyFrom_93 c_ic0
theorem e3_94 : Rn X d 3 94 LS ST M h = Rn X d 3 96 LS (.int (zN 32) :: ST) M h := r_bipush mt_3 dX0_copyFrom_94 c_bi32
theorem e3_96 : Rn X (d + 1) 3 96 LS ([.int z, .int y, .ref b, .int x, .ref a]) M h = q_cp X (M a) (M b) b x y z (d + 1) 3 99 LS M h := s_cpy mt_3 dX0_copyFrom_96 cl_0_37
theorem e3_99 : Rn X d 3 99 LS [] M h = some (.inl none, M, h) := r_vret mt_3 dX0_copyFrom_99 rfl
theorem e4_0 : Rn X d 4 0 (some (.ref a) :: t) ST M h = Rn X d 4 1 (some (.ref a) :: t) (.ref a :: ST) M h := r_aload_n mt_4 dX0_kept_0 rfl
theorem e4_1 : Rn X d 4 1 LS (.ref a :: ST) M h = q_g X (M a) 0 2 d 4 4 LS ST M h := s_get mt_4 dX0_kept_1 f_0_34
theorem e4_4 : Rn X d 4 4 (some (.ref a) :: t) ST M h = Rn X d 4 5 (some (.ref a) :: t) (.ref a :: ST) M h := r_aload_n mt_4 dX0_kept_4 rfl
theorem e4_5 : Rn X d 4 5 LS (.ref a :: ST) M h = q_g X (M a) 0 1 d 4 8 LS ST M h := s_get mt_4 dX0_kept_5 f_0_31
theorem e4_8 : Rn X d 4 8 LS (.int y :: .int x :: ST) M h = Rn X d 4 9 LS (.int (x - y) :: ST) M h := r_isub mt_4 dX0_kept_8
theorem e4_9 : Rn X d 4 9 LS ([.int x]) M h = some (.inl (some (.int x)), M, h) := r_iret mt_4 dX0_kept_9 rfl
theorem e5_0 : Rn X d 5 0 (some (.ref a) :: t) ST M h = Rn X d 5 1 (some (.ref a) :: t) (.ref a :: ST) M h := r_aload_n mt_5 dX0_isFull_0 rfl
theorem e5_1 (hcs : Nat.ble (j_cs ST) 8 = true) : Rn X (d + 1) 5 1 LS (.ref a :: ST) M h = j_rc (M a) 0 (q_k X (Rn X d 4 0 [some (.ref a)] [] M (j_h0 h)) h (d + 1) 5 4 LS ST) := s_callV mt_5 dX0_isFull_1 cl_0_43 mt_4 rfl rfl (Nat.le_add_left _ _) rfl rfl rfl rfl hcs
theorem e5_4 : Rn X d 5 4 (some (.ref a) :: t) ST M h = Rn X d 5 5 (some (.ref a) :: t) (.ref a :: ST) M h := r_aload_n mt_5 dX0_isFull_4 rfl
theorem e5_5 : Rn X d 5 5 LS (.ref a :: ST) M h = q_g X (M a) 0 0 d 5 8 LS ST M h := s_get mt_5 dX0_isFull_5 f_0_27
theorem e5_8 : Rn X d 5 8 LS (.int y :: .int x :: ST) M h = q_lt X x y d 5 15 11 LS ST M h := s_iclt mt_5 dX0_isFull_8 rfl
theorem e5_11 : Rn X d 5 11 LS ST M h = Rn X d 5 12 LS (.int (zN 1) :: ST) M h := r_iconst mt_5 dX0_isFull_11 c_ic1
theorem e5_12 : Rn X d 5 12 LS ST M h = Rn X d 5 16 LS ST M h := r_goto mt_5 dX0_isFull_12 rfl
theorem e5_15 : Rn X d 5 15 LS ST M h = Rn X d 5 16 LS (.int (zN 0) :: ST) M h := r_iconst mt_5 dX0_isFull_15 c_ic0
theorem e5_16 {v : Nat} (h0 : v < 2) : Rn X d 5 16 LS ([.int (zN v)]) M h = some (.inl (some (.int (zN v))), M, h) := s_zret mt_5 dX0_isFull_16 rfl h0
theorem e6_0 : Rn X d 6 0 (l0 :: some (.int x) :: t) ST M h = Rn X d 6 1 (l0 :: some (.int x) :: t) (.int x :: ST) M h := r_iload_n mt_6 dX0_isKept_0 rfl
theorem e6_1 : Rn X d 6 1 (some (.ref a) :: t) ST M h = Rn X d 6 2 (some (.ref a) :: t) (.ref a :: ST) M h := r_aload_n mt_6 dX0_isKept_1 rfl
theorem e6_2 : Rn X d 6 2 LS (.ref a :: ST) M h = q_g X (M a) 0 1 d 6 5 LS ST M h := s_get mt_6 dX0_isKept_2 f_0_31
theorem e6_5 : Rn X d 6 5 LS (.int y :: .int x :: ST) M h = q_lt X x y d 6 20 8 LS ST M h := s_iclt mt_6 dX0_isKept_5 rfl
theorem e6_8 : Rn X d 6 8 (l0 :: some (.int x) :: t) ST M h = Rn X d 6 9 (l0 :: some (.int x) :: t) (.int x :: ST) M h := r_iload_n mt_6 dX0_isKept_8 rfl
theorem e6_9 : Rn X d 6 9 (some (.ref a) :: t) ST M h = Rn X d 6 10 (some (.ref a) :: t) (.ref a :: ST) M h := r_aload_n mt_6 dX0_isKept_9 rfl
theorem e6_10 : Rn X d 6 10 LS (.ref a :: ST) M h = q_g X (M a) 0 2 d 6 13 LS ST M h := s_get mt_6 dX0_isKept_10 f_0_34
theorem e6_13 : Rn X d 6 13 LS (.int y :: .int x :: ST) M h = q_le X y x d 6 20 16 LS ST M h := s_icge mt_6 dX0_isKept_13 rfl
theorem e6_16 : Rn X d 6 16 LS ST M h = Rn X d 6 17 LS (.int (zN 1) :: ST) M h := r_iconst mt_6 dX0_isKept_16 c_ic1
theorem e6_17 : Rn X d 6 17 LS ST M h = Rn X d 6 21 LS ST M h := r_goto mt_6 dX0_isKept_17 rfl
theorem e6_20 : Rn X d 6 20 LS ST M h = Rn X d 6 21 LS (.int (zN 0) :: ST) M h := r_iconst mt_6 dX0_isKept_20 c_ic0
theorem e6_21 {v : Nat} (h0 : v < 2) : Rn X d 6 21 LS ([.int (zN v)]) M h = some (.inl (some (.int (zN v))), M, h) := s_zret mt_6 dX0_isKept_21 rfl h0
theorem e7_0 : Rn X d 7 0 (some (.ref a) :: t) ST M h = Rn X d 7 1 (some (.ref a) :: t) (.ref a :: ST) M h := r_aload_n mt_7 dX0_add_0 rfl
theorem e7_1 : Rn X d 7 1 LS (.ref a :: ST) M h = q_g X (M a) 0 2 d 7 4 LS ST M h := s_get mt_7 dX0_add_1 f_0_34
theorem e7_4 (ho : j_one l4 = true) : Rn X d 7 4 (l0 :: l1 :: l2 :: l3 :: l4 :: l5 :: t) (.int x :: ST) M h = Rn X d 7 6 (l0 :: l1 :: l2 :: l3 :: l4 :: some (.int x) :: t) ST M h := r_istore mt_7 dX0_add_4 (by show 5 < _; simp only [List.length_cons]; omega) ho rfl
theorem e7_6 : Rn X d 7 6 (l0 :: l1 :: l2 :: l3 :: l4 :: some (.int x) :: t) ST M h = Rn X d 7 8 (l0 :: l1 :: l2 :: l3 :: l4 :: some (.int x) :: t) (.int x :: ST) M h := r_iload mt_7 dX0_add_6 rfl
theorem e7_8 (hcs : Nat.ble (j_cs ST) 8 = true) : Rn X (d + 1) 7 8 LS (.int x :: ST) M h = q_k X (Rn X d 1 0 [some (.int x)] [] M (j_h0 h)) h (d + 1) 7 11 LS ST := s_callS (Or.inl rfl) mt_7 dX0_add_8 cl_0_47 mt_1 rfl (Nat.le_add_left _ _) rfl rfl rfl rfl hcs
theorem e7_11 (ho : j_one l5 = true) : Rn X d 7 11 (l0 :: l1 :: l2 :: l3 :: l4 :: l5 :: l6 :: t) (.int x :: ST) M h = Rn X d 7 13 (l0 :: l1 :: l2 :: l3 :: l4 :: l5 :: some (.int x) :: t) ST M h := r_istore mt_7 dX0_add_11 (by show 6 < _; simp only [List.length_cons]; omega) ho rfl
theorem e7_13 : Rn X d 7 13 (some (.ref a) :: t) ST M h = Rn X d 7 14 (some (.ref a) :: t) (.ref a :: ST) M h := r_aload_n mt_7 dX0_add_13 rfl
theorem e7_14 : Rn X d 7 14 LS (.ref a :: ST) M h = q_g X (M a) 0 3 d 7 17 LS ST M h := s_get mt_7 dX0_add_14 f_0_9
theorem e7_17 : Rn X d 7 17 (l0 :: l1 :: l2 :: l3 :: l4 :: l5 :: some (.int x) :: t) ST M h = Rn X d 7 19 (l0 :: l1 :: l2 :: l3 :: l4 :: l5 :: some (.int x) :: t) (.int x :: ST) M h := r_iload mt_7 dX0_add_17 rfl
theorem e7_19 : Rn X d 7 19 (l0 :: some (.int x) :: t) ST M h = Rn X d 7 20 (l0 :: some (.int x) :: t) (.int x :: ST) M h := r_iload_n mt_7 dX0_add_19 rfl
theorem e7_20 : Rn X d 7 20 LS (.int y :: .int x :: .ref a :: ST) M h = q_st X (M a) a x y d 7 21 LS ST M h := s_iast mt_7 dX0_add_20
theorem e7_21 : Rn X d 7 21 (some (.ref a) :: t) ST M h = Rn X d 7 22 (some (.ref a) :: t) (.ref a :: ST) M h := r_aload_n mt_7 dX0_add_21 rfl
theorem e7_22 : Rn X d 7 22 LS (.ref a :: ST) M h = q_g X (M a) 0 4 d 7 25 LS ST M h := s_get mt_7 dX0_add_22 f_0_15
theorem e7_25 : Rn X d 7 25 (l0 :: l1 :: l2 :: l3 :: l4 :: l5 :: some (.int x) :: t) ST M h = Rn X d 7 27 (l0 :: l1 :: l2 :: l3 :: l4 :: l5 :: some (.int x) :: t) (.int x :: ST) M h := r_iload mt_7 dX0_add_25 rfl
theorem e7_27 : Rn X d 7 27 (l0 :: l1 :: some (.int x) :: t) ST M h = Rn X d 7 28 (l0 :: l1 :: some (.int x) :: t) (.int x :: ST) M h := r_iload_n mt_7 dX0_add_27 rfl
theorem e7_28 : Rn X d 7 28 LS (.int y :: .int x :: .ref a :: ST) M h = q_st X (M a) a x y d 7 29 LS ST M h := s_iast mt_7 dX0_add_28
theorem e7_29 : Rn X d 7 29 (some (.ref a) :: t) ST M h = Rn X d 7 30 (some (.ref a) :: t) (.ref a :: ST) M h := r_aload_n mt_7 dX0_add_29 rfl
theorem e7_30 : Rn X d 7 30 LS (.ref a :: ST) M h = q_g X (M a) 0 5 d 7 33 LS ST M h := s_get mt_7 dX0_add_30 f_0_18
theorem e7_33 : Rn X d 7 33 (l0 :: l1 :: l2 :: l3 :: l4 :: l5 :: some (.int x) :: t) ST M h = Rn X d 7 35 (l0 :: l1 :: l2 :: l3 :: l4 :: l5 :: some (.int x) :: t) (.int x :: ST) M h := r_iload mt_7 dX0_add_33 rfl
theorem e7_35 : Rn X d 7 35 (l0 :: some (.int x) :: t) ST M h = Rn X d 7 36 (l0 :: some (.int x) :: t) (.int x :: ST) M h := r_iload_n mt_7 dX0_add_35 rfl
theorem e7_36 (hcs : Nat.ble (j_cs ST) 8 = true) : Rn X (d + 1) 7 36 LS (.int x :: ST) M h = q_k X (Rn X d 91 0 [some (.int x)] [] M (j_h0 h)) h (d + 1) 7 39 LS ST := s_callS (Or.inr (Or.inr rfl)) mt_7 dX0_add_36 cl_0_51 mt_91 rfl (Nat.le_add_left _ _) rfl rfl rfl rfl hcs
theorem e7_39 : Rn X d 7 39 LS (.int x :: ST) M h = q_eq X x (zN 0) d 7 46 42 LS ST M h := s_ifeq mt_7 dX0_add_39 rfl
theorem e7_42 : Rn X d 7 42 (l0 :: l1 :: l2 :: some (.int x) :: t) ST M h = Rn X d 7 43 (l0 :: l1 :: l2 :: some (.int x) :: t) (.int x :: ST) M h := r_iload_n mt_7 dX0_add_42 rfl
theorem e7_43 : Rn X d 7 43 LS ST M h = Rn X d 7 47 LS ST M h := r_goto mt_7 dX0_add_43 rfl
theorem e7_46 : Rn X d 7 46 LS ST M h = Rn X d 7 47 LS (.int (zN 0) :: ST) M h := r_iconst mt_7 dX0_add_46 c_ic0
theorem e7_47 : Rn X d 7 47 LS (.int y :: .int x :: .ref a :: ST) M h = q_st X (M a) a x y d 7 48 LS ST M h := s_iast mt_7 dX0_add_47
theorem e7_48 : Rn X d 7 48 (some (.ref a) :: t) ST M h = Rn X d 7 49 (some (.ref a) :: t) (.ref a :: ST) M h := r_aload_n mt_7 dX0_add_48 rfl
theorem e7_49 : Rn X d 7 49 LS (.ref a :: ST) M h = q_g X (M a) 0 6 d 7 52 LS ST M h := s_get mt_7 dX0_add_49 f_0_21
theorem e7_52 : Rn X d 7 52 (l0 :: l1 :: l2 :: l3 :: l4 :: l5 :: some (.int x) :: t) ST M h = Rn X d 7 54 (l0 :: l1 :: l2 :: l3 :: l4 :: l5 :: some (.int x) :: t) (.int x :: ST) M h := r_iload mt_7 dX0_add_52 rfl
theorem e7_54 : Rn X d 7 54 (l0 :: l1 :: l2 :: l3 :: some (.int x) :: t) ST M h = Rn X d 7 56 (l0 :: l1 :: l2 :: l3 :: some (.int x) :: t) (.int x :: ST) M h := r_iload mt_7 dX0_add_54 rfl
theorem e7_56 : Rn X d 7 56 LS (.int y :: .int x :: .ref a :: ST) M h = q_st X (M a) a x y d 7 57 LS ST M h := s_iast mt_7 dX0_add_56
theorem e7_57 : Rn X d 7 57 (some (.ref a) :: t) ST M h = Rn X d 7 58 (some (.ref a) :: t) (.ref a :: ST) M h := r_aload_n mt_7 dX0_add_57 rfl
theorem e7_58 : Rn X d 7 58 LS (.ref a :: ST) M h = q_g X (M a) 0 7 d 7 61 LS ST M h := s_get mt_7 dX0_add_58 f_0_24
theorem e7_61 : Rn X d 7 61 (l0 :: l1 :: l2 :: l3 :: l4 :: l5 :: some (.int x) :: t) ST M h = Rn X d 7 63 (l0 :: l1 :: l2 :: l3 :: l4 :: l5 :: some (.int x) :: t) (.int x :: ST) M h := r_iload mt_7 dX0_add_61 rfl
theorem e7_63 : Rn X d 7 63 LS ST M h = Rn X d 7 64 LS (.int (zN 0) :: ST) M h := r_iconst mt_7 dX0_add_63 c_ic0
theorem e7_64 : Rn X d 7 64 LS (.int y :: .int x :: .ref a :: ST) M h = q_st X (M a) a x y d 7 65 LS ST M h := s_iast mt_7 dX0_add_64
theorem e7_65 : Rn X d 7 65 (some (.ref a) :: t) ST M h = Rn X d 7 66 (some (.ref a) :: t) (.ref a :: ST) M h := r_aload_n mt_7 dX0_add_65 rfl
theorem e7_66 : Rn X d 7 66 LS (.int x :: ST) M h = Rn X d 7 67 LS (.int x :: .int x :: ST) M h := r_dup mt_7 dX0_add_66 rfl
theorem e7_66r : Rn X d 7 66 LS (.ref a :: ST) M h = Rn X d 7 67 LS (.ref a :: .ref a :: ST) M h := r_dup mt_7 dX0_add_66 rfl
theorem e7_67 : Rn X d 7 67 LS (.ref a :: ST) M h = q_g X (M a) 0 2 d 7 70 LS ST M h := s_get mt_7 dX0_add_67 f_0_34
theorem e7_70 : Rn X d 7 70 LS ST M h = Rn X d 7 71 LS (.int (zN 1) :: ST) M h := r_iconst mt_7 dX0_add_70 c_ic1
theorem e7_71 : Rn X d 7 71 LS (.int y :: .int x :: ST) M h = Rn X d 7 72 LS (.int (x + y) :: ST) M h := r_iadd mt_7 dX0_add_71
theorem e7_72 : Rn X d 7 72 LS (.int x :: .ref a :: ST) M h = q_p X (M a) a 0 2 (.int x) d 7 75 LS ST M h := s_putN mt_7 dX0_add_72 f_0_34 rfl rfl rfl
theorem e7_75 : Rn X d 7 75 (l0 :: l1 :: l2 :: l3 :: l4 :: some (.int x) :: t) ST M h = Rn X d 7 77 (l0 :: l1 :: l2 :: l3 :: l4 :: some (.int x) :: t) (.int x :: ST) M h := r_iload mt_7 dX0_add_75 rfl
theorem e7_77 : Rn X d 7 77 LS ([.int x]) M h = some (.inl (some (.int x)), M, h) := r_iret mt_7 dX0_add_77 rfl
theorem e8_0 : Rn X d 8 0 (some (.ref a) :: t) ST M h = Rn X d 8 1 (some (.ref a) :: t) (.ref a :: ST) M h := r_aload_n mt_8 dX0_kindAt_0 rfl
theorem e8_1 : Rn X d 8 1 LS (.ref a :: ST) M h = q_g X (M a) 0 3 d 8 4 LS ST M h := s_get mt_8 dX0_kindAt_1 f_0_9
theorem e8_4 : Rn X d 8 4 (l0 :: some (.int x) :: t) ST M h = Rn X d 8 5 (l0 :: some (.int x) :: t) (.int x :: ST) M h := r_iload_n mt_8 dX0_kindAt_4 rfl
theorem e8_5 (hcs : Nat.ble (j_cs ST) 8 = true) : Rn X (d + 1) 8 5 LS (.int x :: ST) M h = q_k X (Rn X d 1 0 [some (.int x)] [] M (j_h0 h)) h (d + 1) 8 8 LS ST := s_callS (Or.inl rfl) mt_8 dX0_kindAt_5 cl_0_47 mt_1 rfl (Nat.le_add_left _ _) rfl rfl rfl rfl hcs
theorem e8_8 : Rn X d 8 8 LS (.int x :: .ref a :: ST) M h = q_ld X (M a) a x d 8 9 LS ST M h := s_iald mt_8 dX0_kindAt_8
theorem e8_9 : Rn X d 8 9 LS ([.int x]) M h = some (.inl (some (.int x)), M, h) := r_iret mt_8 dX0_kindAt_9 rfl
theorem e9_0 : Rn X d 9 0 (some (.ref a) :: t) ST M h = Rn X d 9 1 (some (.ref a) :: t) (.ref a :: ST) M h := r_aload_n mt_9 dX0_holdAAt_0 rfl
theorem e9_1 : Rn X d 9 1 LS (.ref a :: ST) M h = q_g X (M a) 0 4 d 9 4 LS ST M h := s_get mt_9 dX0_holdAAt_1 f_0_15
theorem e9_4 : Rn X d 9 4 (l0 :: some (.int x) :: t) ST M h = Rn X d 9 5 (l0 :: some (.int x) :: t) (.int x :: ST) M h := r_iload_n mt_9 dX0_holdAAt_4 rfl
theorem e9_5 (hcs : Nat.ble (j_cs ST) 8 = true) : Rn X (d + 1) 9 5 LS (.int x :: ST) M h = q_k X (Rn X d 1 0 [some (.int x)] [] M (j_h0 h)) h (d + 1) 9 8 LS ST := s_callS (Or.inl rfl) mt_9 dX0_holdAAt_5 cl_0_47 mt_1 rfl (Nat.le_add_left _ _) rfl rfl rfl rfl hcs
theorem e9_8 : Rn X d 9 8 LS (.int x :: .ref a :: ST) M h = q_ld X (M a) a x d 9 9 LS ST M h := s_iald mt_9 dX0_holdAAt_8
theorem e9_9 : Rn X d 9 9 LS ([.int x]) M h = some (.inl (some (.int x)), M, h) := r_iret mt_9 dX0_holdAAt_9 rfl
theorem e10_0 : Rn X d 10 0 (some (.ref a) :: t) ST M h = Rn X d 10 1 (some (.ref a) :: t) (.ref a :: ST) M h := r_aload_n mt_10 dX0_holdBAt_0 rfl
theorem e10_1 : Rn X d 10 1 LS (.ref a :: ST) M h = q_g X (M a) 0 5 d 10 4 LS ST M h := s_get mt_10 dX0_holdBAt_1 f_0_18
theorem e10_4 : Rn X d 10 4 (l0 :: some (.int x) :: t) ST M h = Rn X d 10 5 (l0 :: some (.int x) :: t) (.int x :: ST) M h := r_iload_n mt_10 dX0_holdBAt_4 rfl
theorem e10_5 (hcs : Nat.ble (j_cs ST) 8 = true) : Rn X (d + 1) 10 5 LS (.int x :: ST) M h = q_k X (Rn X d 1 0 [some (.int x)] [] M (j_h0 h)) h (d + 1) 10 8 LS ST := s_callS (Or.inl rfl) mt_10 dX0_holdBAt_5 cl_0_47 mt_1 rfl (Nat.le_add_left _ _) rfl rfl rfl rfl hcs
theorem e10_8 : Rn X d 10 8 LS (.int x :: .ref a :: ST) M h = q_ld X (M a) a x d 10 9 LS ST M h := s_iald mt_10 dX0_holdBAt_8
theorem e10_9 : Rn X d 10 9 LS ([.int x]) M h = some (.inl (some (.int x)), M, h) := r_iret mt_10 dX0_holdBAt_9 rfl
theorem e11_0 : Rn X d 11 0 (some (.ref a) :: t) ST M h = Rn X d 11 1 (some (.ref a) :: t) (.ref a :: ST) M h := r_aload_n mt_11 dX0_amountAt_0 rfl
theorem e11_1 : Rn X d 11 1 LS (.ref a :: ST) M h = q_g X (M a) 0 6 d 11 4 LS ST M h := s_get mt_11 dX0_amountAt_1 f_0_21
theorem e11_4 : Rn X d 11 4 (l0 :: some (.int x) :: t) ST M h = Rn X d 11 5 (l0 :: some (.int x) :: t) (.int x :: ST) M h := r_iload_n mt_11 dX0_amountAt_4 rfl
theorem e11_5 (hcs : Nat.ble (j_cs ST) 8 = true) : Rn X (d + 1) 11 5 LS (.int x :: ST) M h = q_k X (Rn X d 1 0 [some (.int x)] [] M (j_h0 h)) h (d + 1) 11 8 LS ST := s_callS (Or.inl rfl) mt_11 dX0_amountAt_5 cl_0_47 mt_1 rfl (Nat.le_add_left _ _) rfl rfl rfl rfl hcs
theorem e11_8 : Rn X d 11 8 LS (.int x :: .ref a :: ST) M h = q_ld X (M a) a x d 11 9 LS ST M h := s_iald mt_11 dX0_amountAt_8
theorem e11_9 : Rn X d 11 9 LS ([.int x]) M h = some (.inl (some (.int x)), M, h) := r_iret mt_11 dX0_amountAt_9 rfl
theorem e12_0 : Rn X d 12 0 (some (.ref a) :: t) ST M h = Rn X d 12 1 (some (.ref a) :: t) (.ref a :: ST) M h := r_aload_n mt_12 dX0_spoiledAt_0 rfl
theorem e12_1 : Rn X d 12 1 LS (.ref a :: ST) M h = q_g X (M a) 0 7 d 12 4 LS ST M h := s_get mt_12 dX0_spoiledAt_1 f_0_24
theorem e12_4 : Rn X d 12 4 (l0 :: some (.int x) :: t) ST M h = Rn X d 12 5 (l0 :: some (.int x) :: t) (.int x :: ST) M h := r_iload_n mt_12 dX0_spoiledAt_4 rfl
theorem e12_5 (hcs : Nat.ble (j_cs ST) 8 = true) : Rn X (d + 1) 12 5 LS (.int x :: ST) M h = q_k X (Rn X d 1 0 [some (.int x)] [] M (j_h0 h)) h (d + 1) 12 8 LS ST := s_callS (Or.inl rfl) mt_12 dX0_spoiledAt_5 cl_0_47 mt_1 rfl (Nat.le_add_left _ _) rfl rfl rfl rfl hcs
theorem e12_8 : Rn X d 12 8 LS (.int x :: .ref a :: ST) M h = q_ld X (M a) a x d 12 9 LS ST M h := s_iald mt_12 dX0_spoiledAt_8
theorem e12_9 : Rn X d 12 9 LS ([.int x]) M h = some (.inl (some (.int x)), M, h) := r_iret mt_12 dX0_spoiledAt_9 rfl
theorem e13_0 : Rn X d 13 0 (some (.ref a) :: t) ST M h = Rn X d 13 1 (some (.ref a) :: t) (.ref a :: ST) M h := r_aload_n mt_13 dX0_canBeRead_0 rfl
theorem e13_1 : Rn X d 13 1 (l0 :: some (.int x) :: t) ST M h = Rn X d 13 2 (l0 :: some (.int x) :: t) (.int x :: ST) M h := r_iload_n mt_13 dX0_canBeRead_1 rfl
theorem e13_2 (hcs : Nat.ble (j_cs ST) 8 = true) : Rn X (d + 1) 13 2 LS (.int x :: .ref a :: ST) M h = j_rc (M a) 0 (q_k X (Rn X d 12 0 [some (.ref a), some (.int x)] [] M (j_h0 h)) h (d + 1) 13 5 LS ST) := s_callV mt_13 dX0_canBeRead_2 cl_0_55 mt_12 rfl rfl (Nat.le_add_left _ _) rfl rfl rfl rfl hcs
theorem e13_5 : Rn X d 13 5 LS ST M h = Rn X d 13 6 LS (.int (zN 3) :: ST) M h := r_iconst mt_13 dX0_canBeRead_5 c_ic3
theorem e13_6 : Rn X d 13 6 LS (.int y :: .int x :: ST) M h = q_eq X x y d 13 13 9 LS ST M h := s_iceq mt_13 dX0_canBeRead_6 rfl
theorem e13_9 : Rn X d 13 9 LS ST M h = Rn X d 13 10 LS (.int (zN 1) :: ST) M h := r_iconst mt_13 dX0_canBeRead_9 c_ic1
theorem e13_10 : Rn X d 13 10 LS ST M h = Rn X d 13 14 LS ST M h := r_goto mt_13 dX0_canBeRead_10 rfl
theorem e13_13 : Rn X d 13 13 LS ST M h = Rn X d 13 14 LS (.int (zN 0) :: ST) M h := r_iconst mt_13 dX0_canBeRead_13 c_ic0
theorem e13_14 {v : Nat} (h0 : v < 2) : Rn X d 13 14 LS ([.int (zN v)]) M h = some (.inl (some (.int (zN v))), M, h) := s_zret mt_13 dX0_canBeRead_14 rfl h0
theorem e14_0 : Rn X d 14 0 (l0 :: some (.int x) :: t) ST M h = Rn X d 14 1 (l0 :: some (.int x) :: t) (.int x :: ST) M h := r_iload_n mt_14 dX0_spoilCopy_0 rfl
theorem e14_1 (hcs : Nat.ble (j_cs ST) 8 = true) : Rn X (d + 1) 14 1 LS (.int x :: ST) M h = q_k X (Rn X d 1 0 [some (.int x)] [] M (j_h0 h)) h (d + 1) 14 4 LS ST := s_callS (Or.inl rfl) mt_14 dX0_spoilCopy_1 cl_0_47 mt_1 rfl (Nat.le_add_left _ _) rfl rfl rfl rfl hcs
theorem e14_4 (ho : j_one l2 = true) : Rn X d 14 4 (l0 :: l1 :: l2 :: l3 :: t) (.int x :: ST) M h = Rn X d 14 5 (l0 :: l1 :: l2 :: some (.int x) :: t) ST M h := r_istore_n mt_14 dX0_spoilCopy_4 (by show 3 < _; simp only [List.length_cons]; omega) ho rfl
theorem e14_5 : Rn X d 14 5 (some (.ref a) :: t) ST M h = Rn X d 14 6 (some (.ref a) :: t) (.ref a :: ST) M h := r_aload_n mt_14 dX0_spoilCopy_5 rfl
theorem e14_6 : Rn X d 14 6 LS (.ref a :: ST) M h = q_g X (M a) 0 7 d 14 9 LS ST M h := s_get mt_14 dX0_spoilCopy_6 f_0_24
theorem e14_9 : Rn X d 14 9 (l0 :: l1 :: l2 :: some (.int x) :: t) ST M h = Rn X d 14 10 (l0 :: l1 :: l2 :: some (.int x) :: t) (.int x :: ST) M h := r_iload_n mt_14 dX0_spoilCopy_9 rfl
theorem e14_10 : Rn X d 14 10 LS (.int x :: .ref a :: ST) M h = Rn X d 14 11 LS (.int x :: .ref a :: .int x :: .ref a :: ST) M h := r_dup2 mt_14 dX0_spoilCopy_10 rfl rfl
theorem e14_11 : Rn X d 14 11 LS (.int x :: .ref a :: ST) M h = q_ld X (M a) a x d 14 12 LS ST M h := s_iald mt_14 dX0_spoilCopy_11
theorem e14_12 : Rn X d 14 12 LS ST M h = Rn X d 14 13 LS (.int (zN 1) :: ST) M h := r_iconst mt_14 dX0_spoilCopy_12 c_ic1
theorem e14_13 : Rn X d 14 13 (l0 :: l1 :: some (.int x) :: t) ST M h = Rn X d 14 14 (l0 :: l1 :: some (.int x) :: t) (.int x :: ST) M h := r_iload_n mt_14 dX0_spoilCopy_13 rfl
theorem e14_14 : Rn X d 14 14 LS (.int y :: .int x :: ST) M h = Rn X d 14 15 LS (.int (x <<< (y &&& 31)) :: ST) M h := r_ishl mt_14 dX0_spoilCopy_14
theorem e14_15 : Rn X d 14 15 LS (.int y :: .int x :: ST) M h = Rn X d 14 16 LS (.int (x ||| y) :: ST) M h := r_ior mt_14 dX0_spoilCopy_15
theorem e14_16 : Rn X d 14 16 LS (.int y :: .int x :: .ref a :: ST) M h = q_st X (M a) a x y d 14 17 LS ST M h := s_iast mt_14 dX0_spoilCopy_16
theorem e14_17 : Rn X d 14 17 (some (.ref a) :: t) ST M h = Rn X d 14 18 (some (.ref a) :: t) (.ref a :: ST) M h := r_aload_n mt_14 dX0_spoilCopy_17 rfl
theorem e14_18 : Rn X d 14 18 LS (.ref a :: ST) M h = q_g X (M a) 0 7 d 14 21 LS ST M h := s_get mt_14 dX0_spoilCopy_18 f_0_24
theorem e14_21 : Rn X d 14 21 (l0 :: l1 :: l2 :: some (.int x) :: t) ST M h = Rn X d 14 22 (l0 :: l1 :: l2 :: some (.int x) :: t) (.int x :: ST) M h := r_iload_n mt_14 dX0_spoilCopy_21 rfl
theorem e14_22 : Rn X d 14 22 LS (.int x :: .ref a :: ST) M h = q_ld X (M a) a x d 14 23 LS ST M h := s_iald mt_14 dX0_spoilCopy_22
theorem e14_23 (hcs : Nat.ble (j_cs ST) 8 = true) : Rn X (d + 1) 14 23 LS (.int x :: ST) M h = q_k X (Rn X d 100 0 [some (.int x)] [] M (j_h0 h)) h (d + 1) 14 26 LS ST := s_callS (Or.inl rfl) mt_14 dX0_spoilCopy_23 cl_0_58 mt_100 rfl (Nat.le_add_left _ _) rfl rfl rfl rfl hcs
theorem e14_26 : Rn X d 14 26 LS ([.int x]) M h = some (.inl (some (.int x)), M, h) := r_iret mt_14 dX0_spoilCopy_26 rfl
theorem e15_0 : Rn X d 15 0 (l0 :: some (.int x) :: t) ST M h = Rn X d 15 1 (l0 :: some (.int x) :: t) (.int x :: ST) M h := r_iload_n mt_15 dX0_repairOrder_0 rfl
theorem e15_1 (hcs : Nat.ble (j_cs ST) 8 = true) : Rn X (d + 1) 15 1 LS (.int x :: ST) M h = q_k X (Rn X d 1 0 [some (.int x)] [] M (j_h0 h)) h (d + 1) 15 4 LS ST := s_callS (Or.inl rfl) mt_15 dX0_repairOrder_1 cl_0_47 mt_1 rfl (Nat.le_add_left _ _) rfl rfl rfl rfl hcs
theorem e15_4 (ho : j_one l1 = true) : Rn X d 15 4 (l0 :: l1 :: l2 :: t) (.int x :: ST) M h = Rn X d 15 5 (l0 :: l1 :: some (.int x) :: t) ST M h := r_istore_n mt_15 dX0_repairOrder_4 (by show 2 < _; simp only [List.length_cons]; omega) ho rfl
theorem e15_5 : Rn X d 15 5 (some (.ref a) :: t) ST M h = Rn X d 15 6 (some (.ref a) :: t) (.ref a :: ST) M h := r_aload_n mt_15 dX0_repairOrder_5 rfl
theorem e15_6 : Rn X d 15 6 LS (.ref a :: ST) M h = q_g X (M a) 0 7 d 15 9 LS ST M h := s_get mt_15 dX0_repairOrder_6 f_0_24
theorem e15_9 : Rn X d 15 9 (l0 :: l1 :: some (.int x) :: t) ST M h = Rn X d 15 10 (l0 :: l1 :: some (.int x) :: t) (.int x :: ST) M h := r_iload_n mt_15 dX0_repairOrder_9 rfl
theorem e15_10 : Rn X d 15 10 LS (.int x :: .ref a :: ST) M h = q_ld X (M a) a x d 15 11 LS ST M h := s_iald mt_15 dX0_repairOrder_10
theorem e15_11 (hcs : Nat.ble (j_cs ST) 8 = true) : Rn X (d + 1) 15 11 LS (.int x :: ST) M h = q_k X (Rn X d 100 0 [some (.int x)] [] M (j_h0 h)) h (d + 1) 15 14 LS ST := s_callS (Or.inl rfl) mt_15 dX0_repairOrder_11 cl_0_58 mt_100 rfl (Nat.le_add_left _ _) rfl rfl rfl rfl hcs
theorem e15_14 (ho : j_one l2 = true) : Rn X d 15 14 (l0 :: l1 :: l2 :: l3 :: t) (.int x :: ST) M h = Rn X d 15 15 (l0 :: l1 :: l2 :: some (.int x) :: t) ST M h := r_istore_n mt_15 dX0_repairOrder_14 (by show 3 < _; simp only [List.length_cons]; omega) ho rfl
theorem e15_15 : Rn X d 15 15 (some (.ref a) :: t) ST M h = Rn X d 15 16 (some (.ref a) :: t) (.ref a :: ST) M h := r_aload_n mt_15 dX0_repairOrder_15 rfl
theorem e15_16 : Rn X d 15 16 LS (.ref a :: ST) M h = q_g X (M a) 0 7 d 15 19 LS ST M h := s_get mt_15 dX0_repairOrder_16 f_0_24
theorem e15_19 : Rn X d 15 19 (l0 :: l1 :: some (.int x) :: t) ST M h = Rn X d 15 20 (l0 :: l1 :: some (.int x) :: t) (.int x :: ST) M h := r_iload_n mt_15 dX0_repairOrder_19 rfl
theorem e15_20 : Rn X d 15 20 LS ST M h = Rn X d 15 21 LS (.int (zN 0) :: ST) M h := r_iconst mt_15 dX0_repairOrder_20 c_ic0
theorem e15_21 : Rn X d 15 21 LS (.int y :: .int x :: .ref a :: ST) M h = q_st X (M a) a x y d 15 22 LS ST M h := s_iast mt_15 dX0_repairOrder_21
theorem e15_22 : Rn X d 15 22 (l0 :: l1 :: l2 :: some (.int x) :: t) ST M h = Rn X d 15 23 (l0 :: l1 :: l2 :: some (.int x) :: t) (.int x :: ST) M h := r_iload_n mt_15 dX0_repairOrder_22 rfl
theorem e15_23 : Rn X d 15 23 LS ([.int x]) M h = some (.inl (some (.int x)), M, h) := r_iret mt_15 dX0_repairOrder_23 rfl
theorem e16_0 : Rn X d 16 0 LS ST M h = Rn X d 16 1 LS (.int (zN 0) :: ST) M h := r_iconst mt_16 dX0_spoiledCopies_0 c_ic0
theorem e16_1 (ho : j_one l0 = true) : Rn X d 16 1 (l0 :: l1 :: t) (.int x :: ST) M h = Rn X d 16 2 (l0 :: some (.int x) :: t) ST M h := r_istore_n mt_16 dX0_spoiledCopies_1 (by show 1 < _; simp only [List.length_cons]; omega) ho rfl
theorem e16_2 : Rn X d 16 2 (some (.ref a) :: t) ST M h = Rn X d 16 3 (some (.ref a) :: t) (.ref a :: ST) M h := r_aload_n mt_16 dX0_spoiledCopies_2 rfl
theorem e16_3 : Rn X d 16 3 LS (.ref a :: ST) M h = q_g X (M a) 0 1 d 16 6 LS ST M h := s_get mt_16 dX0_spoiledCopies_3 f_0_31
theorem e16_6 (ho : j_one l1 = true) : Rn X d 16 6 (l0 :: l1 :: l2 :: t) (.int x :: ST) M h = Rn X d 16 7 (l0 :: l1 :: some (.int x) :: t) ST M h := r_istore_n mt_16 dX0_spoiledCopies_6 (by show 2 < _; simp only [List.length_cons]; omega) ho rfl
theorem e16_7 : Rn X d 16 7 (l0 :: l1 :: some (.int x) :: t) ST M h = Rn X d 16 8 (l0 :: l1 :: some (.int x) :: t) (.int x :: ST) M h := r_iload_n mt_16 dX0_spoiledCopies_7 rfl
theorem e16_8 : Rn X d 16 8 (some (.ref a) :: t) ST M h = Rn X d 16 9 (some (.ref a) :: t) (.ref a :: ST) M h := r_aload_n mt_16 dX0_spoiledCopies_8 rfl
theorem e16_9 : Rn X d 16 9 LS (.ref a :: ST) M h = q_g X (M a) 0 2 d 16 12 LS ST M h := s_get mt_16 dX0_spoiledCopies_9 f_0_34
theorem e16_12 : Rn X d 16 12 LS (.int y :: .int x :: ST) M h = q_le X y x d 16 32 15 LS ST M h := s_icge mt_16 dX0_spoiledCopies_12 rfl
theorem e16_15 : Rn X d 16 15 (l0 :: some (.int x) :: t) ST M h = Rn X d 16 16 (l0 :: some (.int x) :: t) (.int x :: ST) M h := r_iload_n mt_16 dX0_spoiledCopies_15 rfl
theorem e16_16 : Rn X d 16 16 (some (.ref a) :: t) ST M h = Rn X d 16 17 (some (.ref a) :: t) (.ref a :: ST) M h := r_aload_n mt_16 dX0_spoiledCopies_16 rfl
theorem e16_17 : Rn X d 16 17 (l0 :: l1 :: some (.int x) :: t) ST M h = Rn X d 16 18 (l0 :: l1 :: some (.int x) :: t) (.int x :: ST) M h := r_iload_n mt_16 dX0_spoiledCopies_17 rfl
theorem e16_18 (hcs : Nat.ble (j_cs ST) 8 = true) : Rn X (d + 1) 16 18 LS (.int x :: .ref a :: ST) M h = j_rc (M a) 0 (q_k X (Rn X d 12 0 [some (.ref a), some (.int x)] [] M (j_h0 h)) h (d + 1) 16 21 LS ST) := s_callV mt_16 dX0_spoiledCopies_18 cl_0_55 mt_12 rfl rfl (Nat.le_add_left _ _) rfl rfl rfl rfl hcs
theorem e16_21 (hcs : Nat.ble (j_cs ST) 8 = true) : Rn X (d + 1) 16 21 LS (.int x :: ST) M h = q_k X (Rn X d 100 0 [some (.int x)] [] M (j_h0 h)) h (d + 1) 16 24 LS ST := s_callS (Or.inl rfl) mt_16 dX0_spoiledCopies_21 cl_0_58 mt_100 rfl (Nat.le_add_left _ _) rfl rfl rfl rfl hcs
theorem e16_24 : Rn X d 16 24 LS (.int y :: .int x :: ST) M h = Rn X d 16 25 LS (.int (x + y) :: ST) M h := r_iadd mt_16 dX0_spoiledCopies_24
theorem e16_25 (ho : j_one l0 = true) : Rn X d 16 25 (l0 :: l1 :: t) (.int x :: ST) M h = Rn X d 16 26 (l0 :: some (.int x) :: t) ST M h := r_istore_n mt_16 dX0_spoiledCopies_25 (by show 1 < _; simp only [List.length_cons]; omega) ho rfl
theorem e16_26 (ho : j_one l1 = true) : Rn X d 16 26 (l0 :: l1 :: some (.int x) :: t) ST M h = Rn X d 16 29 (l0 :: l1 :: some (.int (x + (zN 1))) :: t) ST M h := r_iinc mt_16 dX0_spoiledCopies_26 rfl (by simp only [List.length_cons]; omega) ho c_ic1 rfl
theorem e16_29 : Rn X d 16 29 LS ST M h = Rn X d 16 7 LS ST M h := r_goto mt_16 dX0_spoiledCopies_29 rfl
theorem e16_32 : Rn X d 16 32 (l0 :: some (.int x) :: t) ST M h = Rn X d 16 33 (l0 :: some (.int x) :: t) (.int x :: ST) M h := r_iload_n mt_16 dX0_spoiledCopies_32 rfl
theorem e16_33 : Rn X d 16 33 LS ([.int x]) M h = some (.inl (some (.int x)), M, h) := r_iret mt_16 dX0_spoiledCopies_33 rfl
theorem e17_0 : Rn X d 17 0 LS ST M h = Rn X d 17 1 LS (.int (zN 0) :: ST) M h := r_iconst mt_17 dX0_unreadableOrders_0 c_ic0
theorem e17_1 (ho : j_one l0 = true) : Rn X d 17 1 (l0 :: l1 :: t) (.int x :: ST) M h = Rn X d 17 2 (l0 :: some (.int x) :: t) ST M h := r_istore_n mt_17 dX0_unreadableOrders_1 (by show 1 < _; simp only [List.length_cons]; omega) ho rfl
theorem e17_2 : Rn X d 17 2 (some (.ref a) :: t) ST M h = Rn X d 17 3 (some (.ref a) :: t) (.ref a :: ST) M h := r_aload_n mt_17 dX0_unreadableOrders_2 rfl
theorem e17_3 : Rn X d 17 3 LS (.ref a :: ST) M h = q_g X (M a) 0 1 d 17 6 LS ST M h := s_get mt_17 dX0_unreadableOrders_3 f_0_31
theorem e17_6 (ho : j_one l1 = true) : Rn X d 17 6 (l0 :: l1 :: l2 :: t) (.int x :: ST) M h = Rn X d 17 7 (l0 :: l1 :: some (.int x) :: t) ST M h := r_istore_n mt_17 dX0_unreadableOrders_6 (by show 2 < _; simp only [List.length_cons]; omega) ho rfl
theorem e17_7 : Rn X d 17 7 (l0 :: l1 :: some (.int x) :: t) ST M h = Rn X d 17 8 (l0 :: l1 :: some (.int x) :: t) (.int x :: ST) M h := r_iload_n mt_17 dX0_unreadableOrders_7 rfl
theorem e17_8 : Rn X d 17 8 (some (.ref a) :: t) ST M h = Rn X d 17 9 (some (.ref a) :: t) (.ref a :: ST) M h := r_aload_n mt_17 dX0_unreadableOrders_8 rfl
theorem e17_9 : Rn X d 17 9 LS (.ref a :: ST) M h = q_g X (M a) 0 2 d 17 12 LS ST M h := s_get mt_17 dX0_unreadableOrders_9 f_0_34
theorem e17_12 : Rn X d 17 12 LS (.int y :: .int x :: ST) M h = q_le X y x d 17 37 15 LS ST M h := s_icge mt_17 dX0_unreadableOrders_12 rfl
theorem e17_15 : Rn X d 17 15 (l0 :: some (.int x) :: t) ST M h = Rn X d 17 16 (l0 :: some (.int x) :: t) (.int x :: ST) M h := r_iload_n mt_17 dX0_unreadableOrders_15 rfl
theorem e17_16 : Rn X d 17 16 (some (.ref a) :: t) ST M h = Rn X d 17 17 (some (.ref a) :: t) (.ref a :: ST) M h := r_aload_n mt_17 dX0_unreadableOrders_16 rfl
theorem e17_17 : Rn X d 17 17 (l0 :: l1 :: some (.int x) :: t) ST M h = Rn X d 17 18 (l0 :: l1 :: some (.int x) :: t) (.int x :: ST) M h := r_iload_n mt_17 dX0_unreadableOrders_17 rfl
theorem e17_18 (hcs : Nat.ble (j_cs ST) 8 = true) : Rn X (d + 1) 17 18 LS (.int x :: .ref a :: ST) M h = j_rc (M a) 0 (q_k X (Rn X d 13 0 [some (.ref a), some (.int x)] [] M (j_h0 h)) h (d + 1) 17 21 LS ST) := s_callV mt_17 dX0_unreadableOrders_18 cl_0_63 mt_13 rfl rfl (Nat.le_add_left _ _) rfl rfl rfl rfl hcs
theorem e17_21 : Rn X d 17 21 LS (.int x :: ST) M h = q_eq X x (zN 0) d 17 28 24 LS ST M h := s_ifeq mt_17 dX0_unreadableOrders_21 rfl
theorem e17_24 : Rn X d 17 24 LS ST M h = Rn X d 17 25 LS (.int (zN 0) :: ST) M h := r_iconst mt_17 dX0_unreadableOrders_24 c_ic0
theorem e17_25 : Rn X d 17 25 LS ST M h = Rn X d 17 29 LS ST M h := r_goto mt_17 dX0_unreadableOrders_25 rfl
theorem e17_28 : Rn X d 17 28 LS ST M h = Rn X d 17 29 LS (.int (zN 1) :: ST) M h := r_iconst mt_17 dX0_unreadableOrders_28 c_ic1
theorem e17_29 : Rn X d 17 29 LS (.int y :: .int x :: ST) M h = Rn X d 17 30 LS (.int (x + y) :: ST) M h := r_iadd mt_17 dX0_unreadableOrders_29
theorem e17_30 (ho : j_one l0 = true) : Rn X d 17 30 (l0 :: l1 :: t) (.int x :: ST) M h = Rn X d 17 31 (l0 :: some (.int x) :: t) ST M h := r_istore_n mt_17 dX0_unreadableOrders_30 (by show 1 < _; simp only [List.length_cons]; omega) ho rfl
theorem e17_31 (ho : j_one l1 = true) : Rn X d 17 31 (l0 :: l1 :: some (.int x) :: t) ST M h = Rn X d 17 34 (l0 :: l1 :: some (.int (x + (zN 1))) :: t) ST M h := r_iinc mt_17 dX0_unreadableOrders_31 rfl (by simp only [List.length_cons]; omega) ho c_ic1 rfl
theorem e17_34 : Rn X d 17 34 LS ST M h = Rn X d 17 7 LS ST M h := r_goto mt_17 dX0_unreadableOrders_34 rfl
theorem e17_37 : Rn X d 17 37 (l0 :: some (.int x) :: t) ST M h = Rn X d 17 38 (l0 :: some (.int x) :: t) (.int x :: ST) M h := r_iload_n mt_17 dX0_unreadableOrders_37 rfl
theorem e17_38 : Rn X d 17 38 LS ([.int x]) M h = some (.inl (some (.int x)), M, h) := r_iret mt_17 dX0_unreadableOrders_38 rfl
theorem e18_0 : Rn X d 18 0 (l0 :: some (.int x) :: t) ST M h = Rn X d 18 1 (l0 :: some (.int x) :: t) (.int x :: ST) M h := r_iload_n mt_18 dX0_firstUnreadable_0 rfl
theorem e18_1 (ho : j_one l1 = true) : Rn X d 18 1 (l0 :: l1 :: l2 :: t) (.int x :: ST) M h = Rn X d 18 2 (l0 :: l1 :: some (.int x) :: t) ST M h := r_istore_n mt_18 dX0_firstUnreadable_1 (by show 2 < _; simp only [List.length_cons]; omega) ho rfl
theorem e18_2 : Rn X d 18 2 (l0 :: l1 :: some (.int x) :: t) ST M h = Rn X d 18 3 (l0 :: l1 :: some (.int x) :: t) (.int x :: ST) M h := r_iload_n mt_18 dX0_firstUnreadable_2 rfl
theorem e18_3 : Rn X d 18 3 (some (.ref a) :: t) ST M h = Rn X d 18 4 (some (.ref a) :: t) (.ref a :: ST) M h := r_aload_n mt_18 dX0_firstUnreadable_3 rfl
theorem e18_4 : Rn X d 18 4 LS (.ref a :: ST) M h = q_g X (M a) 0 2 d 18 7 LS ST M h := s_get mt_18 dX0_firstUnreadable_4 f_0_34
theorem e18_7 : Rn X d 18 7 LS (.int y :: .int x :: ST) M h = q_le X y x d 18 26 10 LS ST M h := s_icge mt_18 dX0_firstUnreadable_7 rfl
theorem e18_10 : Rn X d 18 10 (some (.ref a) :: t) ST M h = Rn X d 18 11 (some (.ref a) :: t) (.ref a :: ST) M h := r_aload_n mt_18 dX0_firstUnreadable_10 rfl
theorem e18_11 : Rn X d 18 11 (l0 :: l1 :: some (.int x) :: t) ST M h = Rn X d 18 12 (l0 :: l1 :: some (.int x) :: t) (.int x :: ST) M h := r_iload_n mt_18 dX0_firstUnreadable_11 rfl
theorem e18_12 (hcs : Nat.ble (j_cs ST) 8 = true) : Rn X (d + 1) 18 12 LS (.int x :: .ref a :: ST) M h = j_rc (M a) 0 (q_k X (Rn X d 13 0 [some (.ref a), some (.int x)] [] M (j_h0 h)) h (d + 1) 18 15 LS ST) := s_callV mt_18 dX0_firstUnreadable_12 cl_0_63 mt_13 rfl rfl (Nat.le_add_left _ _) rfl rfl rfl rfl hcs
theorem e18_15 : Rn X d 18 15 LS (.int x :: ST) M h = q_eq X x (zN 0) d 18 18 20 LS ST M h := s_ifne mt_18 dX0_firstUnreadable_15 rfl
theorem e18_18 : Rn X d 18 18 (l0 :: l1 :: some (.int x) :: t) ST M h = Rn X d 18 19 (l0 :: l1 :: some (.int x) :: t) (.int x :: ST) M h := r_iload_n mt_18 dX0_firstUnreadable_18 rfl
theorem e18_19 : Rn X d 18 19 LS ([.int x]) M h = some (.inl (some (.int x)), M, h) := r_iret mt_18 dX0_firstUnreadable_19 rfl
theorem e18_20 (ho : j_one l1 = true) : Rn X d 18 20 (l0 :: l1 :: some (.int x) :: t) ST M h = Rn X d 18 23 (l0 :: l1 :: some (.int (x + (zN 1))) :: t) ST M h := r_iinc mt_18 dX0_firstUnreadable_20 rfl (by simp only [List.length_cons]; omega) ho c_ic1 rfl
theorem e18_23 : Rn X d 18 23 LS ST M h = Rn X d 18 2 LS ST M h := r_goto mt_18 dX0_firstUnreadable_23 rfl
theorem e18_26 : Rn X d 18 26 (some (.ref a) :: t) ST M h = Rn X d 18 27 (some (.ref a) :: t) (.ref a :: ST) M h := r_aload_n mt_18 dX0_firstUnreadable_26 rfl
theorem e18_27 : Rn X d 18 27 LS (.ref a :: ST) M h = q_g X (M a) 0 2 d 18 30 LS ST M h := s_get mt_18 dX0_firstUnreadable_27 f_0_34
theorem e18_30 : Rn X d 18 30 LS ([.int x]) M h = some (.inl (some (.int x)), M, h) := r_iret mt_18 dX0_firstUnreadable_30 rfl
theorem e19_0 : Rn X d 19 0 (l0 :: l1 :: some (.int x) :: t) ST M h = Rn X d 19 1 (l0 :: l1 :: some (.int x) :: t) (.int x :: ST) M h := r_iload_n mt_19 dX0_replayOn_0 rfl
theorem e19_1 (ho : j_one l3 = true) : Rn X d 19 1 (l0 :: l1 :: l2 :: l3 :: l4 :: t) (.int x :: ST) M h = Rn X d 19 3 (l0 :: l1 :: l2 :: l3 :: some (.int x) :: t) ST M h := r_istore mt_19 dX0_replayOn_1 (by show 4 < _; simp only [List.length_cons]; omega) ho rfl
theorem e19_3 : Rn X d 19 3 (l0 :: l1 :: l2 :: l3 :: some (.int x) :: t) ST M h = Rn X d 19 5 (l0 :: l1 :: l2 :: l3 :: some (.int x) :: t) (.int x :: ST) M h := r_iload mt_19 dX0_replayOn_3 rfl
theorem e19_5 : Rn X d 19 5 (l0 :: l1 :: l2 :: some (.int x) :: t) ST M h = Rn X d 19 6 (l0 :: l1 :: l2 :: some (.int x) :: t) (.int x :: ST) M h := r_iload_n mt_19 dX0_replayOn_5 rfl
theorem e19_6 : Rn X d 19 6 LS (.int y :: .int x :: ST) M h = q_le X y x d 19 33 9 LS ST M h := s_icge mt_19 dX0_replayOn_6 rfl
theorem e19_9 : Rn X d 19 9 (some (.ref a) :: t) ST M h = Rn X d 19 10 (some (.ref a) :: t) (.ref a :: ST) M h := r_aload_n mt_19 dX0_replayOn_9 rfl
theorem e19_10 : Rn X d 19 10 (l0 :: l1 :: l2 :: l3 :: some (.int x) :: t) ST M h = Rn X d 19 12 (l0 :: l1 :: l2 :: l3 :: some (.int x) :: t) (.int x :: ST) M h := r_iload mt_19 dX0_replayOn_10 rfl
theorem e19_12 (hcs : Nat.ble (j_cs ST) 8 = true) : Rn X (d + 1) 19 12 LS (.int x :: .ref a :: ST) M h = j_rc (M a) 0 (q_k X (Rn X d 13 0 [some (.ref a), some (.int x)] [] M (j_h0 h)) h (d + 1) 19 15 LS ST) := s_callV mt_19 dX0_replayOn_12 cl_0_63 mt_13 rfl rfl (Nat.le_add_left _ _) rfl rfl rfl rfl hcs
theorem e19_15 : Rn X d 19 15 LS (.int x :: ST) M h = q_eq X x (zN 0) d 19 18 20 LS ST M h := s_ifne mt_19 dX0_replayOn_15 rfl
theorem e19_18 : Rn X d 19 18 LS ST M h = Rn X d 19 19 LS (.int (zN 0) :: ST) M h := r_iconst mt_19 dX0_replayOn_18 c_ic0
theorem e19_19 {v : Nat} (h0 : v < 2) : Rn X d 19 19 LS ([.int (zN v)]) M h = some (.inl (some (.int (zN v))), M, h) := s_zret mt_19 dX0_replayOn_19 rfl h0
theorem e19_20 : Rn X d 19 20 (some (.ref a) :: t) ST M h = Rn X d 19 21 (some (.ref a) :: t) (.ref a :: ST) M h := r_aload_n mt_19 dX0_replayOn_20 rfl
theorem e19_21 : Rn X d 19 21 (l0 :: some (.ref a) :: t) ST M h = Rn X d 19 22 (l0 :: some (.ref a) :: t) (.ref a :: ST) M h := r_aload_n mt_19 dX0_replayOn_21 rfl
theorem e19_22 : Rn X d 19 22 (l0 :: l1 :: l2 :: l3 :: some (.int x) :: t) ST M h = Rn X d 19 24 (l0 :: l1 :: l2 :: l3 :: some (.int x) :: t) (.int x :: ST) M h := r_iload mt_19 dX0_replayOn_22 rfl
theorem e19_24 (hcs : Nat.ble (j_cs ST) 8 = true) : Rn X (d + 1) 19 24 LS (.int x :: .ref b :: .ref a :: ST) M h = j_rc (M a) 0 (q_k X (Rn X d 20 0 [some (.ref a), some (.ref b), some (.int x), none, none, none, none] [] M (j_h0 h)) h (d + 1) 19 27 LS ST) := s_callV mt_19 dX0_replayOn_24 cl_0_66 mt_20 rfl rfl (Nat.le_add_left _ _) rfl rfl rfl rfl hcs
theorem e19_27 (ho : j_one l3 = true) : Rn X d 19 27 (l0 :: l1 :: l2 :: l3 :: some (.int x) :: t) ST M h = Rn X d 19 30 (l0 :: l1 :: l2 :: l3 :: some (.int (x + (zN 1))) :: t) ST M h := r_iinc mt_19 dX0_replayOn_27 rfl (by simp only [List.length_cons]; omega) ho c_ic1 rfl
theorem e19_30 : Rn X d 19 30 LS ST M h = Rn X d 19 3 LS ST M h := r_goto mt_19 dX0_replayOn_30 rfl
theorem e19_33 : Rn X d 19 33 LS ST M h = Rn X d 19 34 LS (.int (zN 1) :: ST) M h := r_iconst mt_19 dX0_replayOn_33 c_ic1
theorem e19_34 {v : Nat} (h0 : v < 2) : Rn X d 19 34 LS ([.int (zN v)]) M h = some (.inl (some (.int (zN v))), M, h) := s_zret mt_19 dX0_replayOn_34 rfl h0
theorem e20_0 : Rn X d 20 0 (l0 :: l1 :: some (.int x) :: t) ST M h = Rn X d 20 1 (l0 :: l1 :: some (.int x) :: t) (.int x :: ST) M h := r_iload_n mt_20 dX0_replayOne_0 rfl
theorem e20_1 (hcs : Nat.ble (j_cs ST) 8 = true) : Rn X (d + 1) 20 1 LS (.int x :: ST) M h = q_k X (Rn X d 1 0 [some (.int x)] [] M (j_h0 h)) h (d + 1) 20 4 LS ST := s_callS (Or.inl rfl) mt_20 dX0_replayOne_1 cl_0_47 mt_1 rfl (Nat.le_add_left _ _) rfl rfl rfl rfl hcs
theorem e20_4 (ho : j_one l2 = true) : Rn X d 20 4 (l0 :: l1 :: l2 :: l3 :: t) (.int x :: ST) M h = Rn X d 20 5 (l0 :: l1 :: l2 :: some (.int x) :: t) ST M h := r_istore_n mt_20 dX0_replayOne_4 (by show 3 < _; simp only [List.length_cons]; omega) ho rfl
theorem e20_5 : Rn X d 20 5 (some (.ref a) :: t) ST M h = Rn X d 20 6 (some (.ref a) :: t) (.ref a :: ST) M h := r_aload_n mt_20 dX0_replayOne_5 rfl
theorem e20_6 : Rn X d 20 6 LS (.ref a :: ST) M h = q_g X (M a) 0 4 d 20 9 LS ST M h := s_get mt_20 dX0_replayOne_6 f_0_15
theorem e20_9 : Rn X d 20 9 (l0 :: l1 :: l2 :: some (.int x) :: t) ST M h = Rn X d 20 10 (l0 :: l1 :: l2 :: some (.int x) :: t) (.int x :: ST) M h := r_iload_n mt_20 dX0_replayOne_9 rfl
theorem e20_10 : Rn X d 20 10 LS (.int x :: .ref a :: ST) M h = q_ld X (M a) a x d 20 11 LS ST M h := s_iald mt_20 dX0_replayOne_10
theorem e20_11 (ho : j_one l3 = true) : Rn X d 20 11 (l0 :: l1 :: l2 :: l3 :: l4 :: t) (.int x :: ST) M h = Rn X d 20 13 (l0 :: l1 :: l2 :: l3 :: some (.int x) :: t) ST M h := r_istore mt_20 dX0_replayOne_11 (by show 4 < _; simp only [List.length_cons]; omega) ho rfl
theorem e20_13 : Rn X d 20 13 (some (.ref a) :: t) ST M h = Rn X d 20 14 (some (.ref a) :: t) (.ref a :: ST) M h := r_aload_n mt_20 dX0_replayOne_13 rfl
theorem e20_14 : Rn X d 20 14 LS (.ref a :: ST) M h = q_g X (M a) 0 5 d 20 17 LS ST M h := s_get mt_20 dX0_replayOne_14 f_0_18
theorem e20_17 : Rn X d 20 17 (l0 :: l1 :: l2 :: some (.int x) :: t) ST M h = Rn X d 20 18 (l0 :: l1 :: l2 :: some (.int x) :: t) (.int x :: ST) M h := r_iload_n mt_20 dX0_replayOne_17 rfl
theorem e20_18 : Rn X d 20 18 LS (.int x :: .ref a :: ST) M h = q_ld X (M a) a x d 20 19 LS ST M h := s_iald mt_20 dX0_replayOne_18
theorem e20_19 (ho : j_one l4 = true) : Rn X d 20 19 (l0 :: l1 :: l2 :: l3 :: l4 :: l5 :: t) (.int x :: ST) M h = Rn X d 20 21 (l0 :: l1 :: l2 :: l3 :: l4 :: some (.int x) :: t) ST M h := r_istore mt_20 dX0_replayOne_19 (by show 5 < _; simp only [List.length_cons]; omega) ho rfl
theorem e20_21 : Rn X d 20 21 (some (.ref a) :: t) ST M h = Rn X d 20 22 (some (.ref a) :: t) (.ref a :: ST) M h := r_aload_n mt_20 dX0_replayOne_21 rfl
theorem e20_22 : Rn X d 20 22 LS (.ref a :: ST) M h = q_g X (M a) 0 6 d 20 25 LS ST M h := s_get mt_20 dX0_replayOne_22 f_0_21
theorem e20_25 : Rn X d 20 25 (l0 :: l1 :: l2 :: some (.int x) :: t) ST M h = Rn X d 20 26 (l0 :: l1 :: l2 :: some (.int x) :: t) (.int x :: ST) M h := r_iload_n mt_20 dX0_replayOne_25 rfl
theorem e20_26 : Rn X d 20 26 LS (.int x :: .ref a :: ST) M h = q_ld X (M a) a x d 20 27 LS ST M h := s_iald mt_20 dX0_replayOne_26
theorem e20_27 (ho : j_one l5 = true) : Rn X d 20 27 (l0 :: l1 :: l2 :: l3 :: l4 :: l5 :: l6 :: t) (.int x :: ST) M h = Rn X d 20 29 (l0 :: l1 :: l2 :: l3 :: l4 :: l5 :: some (.int x) :: t) ST M h := r_istore mt_20 dX0_replayOne_27 (by show 6 < _; simp only [List.length_cons]; omega) ho rfl
theorem e20_29 : Rn X d 20 29 (some (.ref a) :: t) ST M h = Rn X d 20 30 (some (.ref a) :: t) (.ref a :: ST) M h := r_aload_n mt_20 dX0_replayOne_29 rfl
theorem e20_30 : Rn X d 20 30 LS (.ref a :: ST) M h = q_g X (M a) 0 3 d 20 33 LS ST M h := s_get mt_20 dX0_replayOne_30 f_0_9
theorem e20_33 : Rn X d 20 33 (l0 :: l1 :: l2 :: some (.int x) :: t) ST M h = Rn X d 20 34 (l0 :: l1 :: l2 :: some (.int x) :: t) (.int x :: ST) M h := r_iload_n mt_20 dX0_replayOne_33 rfl
theorem e20_34 : Rn X d 20 34 LS (.int x :: .ref a :: ST) M h = q_ld X (M a) a x d 20 35 LS ST M h := s_iald mt_20 dX0_replayOne_34
theorem e20_35_0 : Rn X d 20 35 LS (.int (zN 0) :: ST) M h = Rn X d 20 64 LS ST M h := s_tab (off := 29) mt_20 dX0_replayOne_35 (by decide) (by decide) (by decide +kernel) rfl
theorem e20_35_1 : Rn X d 20 35 LS (.int (zN 1) :: ST) M h = Rn X d 20 84 LS ST M h := s_tab (off := 49) mt_20 dX0_replayOne_35 (by decide) (by decide) (by decide +kernel) rfl
theorem e20_35_2 : Rn X d 20 35 LS (.int (zN 2) :: ST) M h = Rn X d 20 102 LS ST M h := s_tab (off := 67) mt_20 dX0_replayOne_35 (by decide) (by decide) (by decide +kernel) rfl
theorem e20_35_3 : Rn X d 20 35 LS (.int (zN 3) :: ST) M h = Rn X d 20 115 LS ST M h := s_tab (off := 80) mt_20 dX0_replayOne_35 (by decide) (by decide) (by decide +kernel) rfl
theorem e20_35_h {v : Nat} (h0 : v < 2147483648) (h1 : 3 < v) : Rn X d 20 35 LS (.int (zN v) :: ST) M h = Rn X d 20 126 LS ST M h := s_tabD mt_20 dX0_replayOne_35 rfl h0 (Or.inr (by omega))
theorem e20_35_m {v : Nat} (h0 : v < 2147483648) : Rn X d 20 35 LS (.int (zM v) :: ST) M h = Rn X d 20 126 LS ST M h := s_tabM mt_20 dX0_replayOne_35 rfl (by decide) h0
theorem e20_64 : Rn X d 20 64 (l0 :: some (.ref a) :: t) ST M h = Rn X d 20 65 (l0 :: some (.ref a) :: t) (.ref a :: ST) M h := r_aload_n mt_20 dX0_replayOne_64 rfl
theorem e20_65 : Rn X d 20 65 (l0 :: l1 :: l2 :: l3 :: some (.int x) :: t) ST M h = Rn X d 20 67 (l0 :: l1 :: l2 :: l3 :: some (.int x) :: t) (.int x :: ST) M h := r_iload mt_20 dX0_replayOne_65 rfl
theorem e20_67 : Rn X d 20 67 (l0 :: some (.ref a) :: t) ST M h = Rn X d 20 68 (l0 :: some (.ref a) :: t) (.ref a :: ST) M h := r_aload_n mt_20 dX0_replayOne_67 rfl
theorem e20_68 : Rn X d 20 68 (l0 :: l1 :: l2 :: l3 :: some (.int x) :: t) ST M h = Rn X d 20 70 (l0 :: l1 :: l2 :: l3 :: some (.int x) :: t) (.int x :: ST) M h := r_iload mt_20 dX0_replayOne_68 rfl
theorem e20_70 : Rn X d 20 70 LS (.int x :: .ref a :: ST) M h = q_ld X (M a) a x d 20 71 LS ST M h := s_iald mt_20 dX0_replayOne_70
theorem e20_71 : Rn X d 20 71 (l0 :: l1 :: l2 :: l3 :: l4 :: l5 :: some (.int x) :: t) ST M h = Rn X d 20 73 (l0 :: l1 :: l2 :: l3 :: l4 :: l5 :: some (.int x) :: t) (.int x :: ST) M h := r_iload mt_20 dX0_replayOne_71 rfl
theorem e20_73 : Rn X d 20 73 LS (.int y :: .int x :: ST) M h = Rn X d 20 74 LS (.int (x + y) :: ST) M h := r_iadd mt_20 dX0_replayOne_73
theorem e20_74 : Rn X d 20 74 LS ST M h = Rn X d 20 77 LS (.int (zN 999) :: ST) M h := r_sipush mt_20 dX0_replayOne_74 c_si999
theorem e20_77 {v w : Nat} (h0 : v < 2147483648) (h1 : w < 2147483648) (hcs : Nat.ble (j_cs ST) 8 = true) : Rn X (d + 1) 20 77 LS (.int (zN w) :: .int (zN v) :: ST) M h = Rn X (d + 1) 20 80 LS (.int (zN (min v w)) :: ST) M h := s_min mt_20 dX0_replayOne_77 cl_0_70 h0 h1 hcs
theorem e20_80 : Rn X d 20 80 LS (.int y :: .int x :: .ref a :: ST) M h = q_st X (M a) a x y d 20 81 LS ST M h := s_iast mt_20 dX0_replayOne_80
theorem e20_81 : Rn X d 20 81 LS ST M h = Rn X d 20 134 LS ST M h := r_goto mt_20 dX0_replayOne_81 rfl
theorem e20_84 : Rn X d 20 84 (l0 :: some (.ref a) :: t) ST M h = Rn X d 20 85 (l0 :: some (.ref a) :: t) (.ref a :: ST) M h := r_aload_n mt_20 dX0_replayOne_84 rfl
theorem e20_85 : Rn X d 20 85 (l0 :: l1 :: l2 :: l3 :: some (.int x) :: t) ST M h = Rn X d 20 87 (l0 :: l1 :: l2 :: l3 :: some (.int x) :: t) (.int x :: ST) M h := r_iload mt_20 dX0_replayOne_85 rfl
theorem e20_87 : Rn X d 20 87 (l0 :: some (.ref a) :: t) ST M h = Rn X d 20 88 (l0 :: some (.ref a) :: t) (.ref a :: ST) M h := r_aload_n mt_20 dX0_replayOne_87 rfl
theorem e20_88 : Rn X d 20 88 (l0 :: l1 :: l2 :: l3 :: some (.int x) :: t) ST M h = Rn X d 20 90 (l0 :: l1 :: l2 :: l3 :: some (.int x) :: t) (.int x :: ST) M h := r_iload mt_20 dX0_replayOne_88 rfl
theorem e20_90 : Rn X d 20 90 LS (.int x :: .ref a :: ST) M h = q_ld X (M a) a x d 20 91 LS ST M h := s_iald mt_20 dX0_replayOne_90
theorem e20_91 : Rn X d 20 91 (l0 :: l1 :: l2 :: l3 :: l4 :: l5 :: some (.int x) :: t) ST M h = Rn X d 20 93 (l0 :: l1 :: l2 :: l3 :: l4 :: l5 :: some (.int x) :: t) (.int x :: ST) M h := r_iload mt_20 dX0_replayOne_91 rfl
theorem e20_93 : Rn X d 20 93 LS (.int y :: .int x :: ST) M h = Rn X d 20 94 LS (.int (x - y) :: ST) M h := r_isub mt_20 dX0_replayOne_93
theorem e20_94 : Rn X d 20 94 LS ST M h = Rn X d 20 95 LS (.int (zN 0) :: ST) M h := r_iconst mt_20 dX0_replayOne_94 c_ic0
theorem e20_95 {v w : Nat} (h0 : v < 2147483648) (h1 : w < 2147483648) (hcs : Nat.ble (j_cs ST) 8 = true) : Rn X (d + 1) 20 95 LS (.int (zN w) :: .int (zN v) :: ST) M h = Rn X (d + 1) 20 98 LS (.int (zN (max v w)) :: ST) M h := s_max mt_20 dX0_replayOne_95 cl_0_76 h0 h1 hcs
theorem e20_95_m {v w : Nat} (h0 : v < 2147483648) (h1 : w < 2147483648) (hcs : Nat.ble (j_cs ST) 8 = true) : Rn X (d + 1) 20 95 LS (.int (zN w) :: .int (zM v) :: ST) M h = Rn X (d + 1) 20 98 LS (.int (zN w) :: ST) M h := s_maxM mt_20 dX0_replayOne_95 cl_0_76 h0 h1 hcs
theorem e20_98 : Rn X d 20 98 LS (.int y :: .int x :: .ref a :: ST) M h = q_st X (M a) a x y d 20 99 LS ST M h := s_iast mt_20 dX0_replayOne_98
theorem e20_99 : Rn X d 20 99 LS ST M h = Rn X d 20 134 LS ST M h := r_goto mt_20 dX0_replayOne_99 rfl
theorem e20_102 : Rn X d 20 102 (l0 :: some (.ref a) :: t) ST M h = Rn X d 20 103 (l0 :: some (.ref a) :: t) (.ref a :: ST) M h := r_aload_n mt_20 dX0_replayOne_102 rfl
theorem e20_103 : Rn X d 20 103 (l0 :: l1 :: l2 :: l3 :: some (.int x) :: t) ST M h = Rn X d 20 105 (l0 :: l1 :: l2 :: l3 :: some (.int x) :: t) (.int x :: ST) M h := r_iload mt_20 dX0_replayOne_103 rfl
theorem e20_105 : Rn X d 20 105 (l0 :: l1 :: l2 :: l3 :: l4 :: some (.int x) :: t) ST M h = Rn X d 20 107 (l0 :: l1 :: l2 :: l3 :: l4 :: some (.int x) :: t) (.int x :: ST) M h := r_iload mt_20 dX0_replayOne_105 rfl
theorem e20_107 : Rn X d 20 107 (l0 :: l1 :: l2 :: l3 :: l4 :: l5 :: some (.int x) :: t) ST M h = Rn X d 20 109 (l0 :: l1 :: l2 :: l3 :: l4 :: l5 :: some (.int x) :: t) (.int x :: ST) M h := r_iload mt_20 dX0_replayOne_107 rfl
theorem e20_109 (hcs : Nat.ble (j_cs ST) 8 = true) : Rn X (d + 1) 20 109 LS (.int z :: .int y :: .int x :: .ref a :: ST) M h = q_k X (Rn X d 21 0 [some (.ref a), some (.int x), some (.int y), some (.int z), none] [] M (j_h0 h)) h (d + 1) 20 112 LS ST := s_callS (Or.inl rfl) mt_20 dX0_replayOne_109 cl_0_79 mt_21 rfl (Nat.le_add_left _ _) rfl rfl rfl rfl hcs
theorem e20_112 : Rn X d 20 112 LS ST M h = Rn X d 20 134 LS ST M h := r_goto mt_20 dX0_replayOne_112 rfl
theorem e20_115 : Rn X d 20 115 (l0 :: some (.ref a) :: t) ST M h = Rn X d 20 116 (l0 :: some (.ref a) :: t) (.ref a :: ST) M h := r_aload_n mt_20 dX0_replayOne_115 rfl
theorem e20_116 : Rn X d 20 116 (l0 :: l1 :: l2 :: l3 :: some (.int x) :: t) ST M h = Rn X d 20 118 (l0 :: l1 :: l2 :: l3 :: some (.int x) :: t) (.int x :: ST) M h := r_iload mt_20 dX0_replayOne_116 rfl
theorem e20_118 : Rn X d 20 118 (l0 :: l1 :: l2 :: l3 :: l4 :: some (.int x) :: t) ST M h = Rn X d 20 120 (l0 :: l1 :: l2 :: l3 :: l4 :: some (.int x) :: t) (.int x :: ST) M h := r_iload mt_20 dX0_replayOne_118 rfl
theorem e20_120 (hcs : Nat.ble (j_cs ST) 8 = true) : Rn X (d + 1) 20 120 LS (.int y :: .int x :: .ref a :: ST) M h = q_k X (Rn X d 22 0 [some (.ref a), some (.int x), some (.int y), none] [] M (j_h0 h)) h (d + 1) 20 123 LS ST := s_callS (Or.inl rfl) mt_20 dX0_replayOne_120 cl_0_83 mt_22 rfl (Nat.le_add_left _ _) rfl rfl rfl rfl hcs
theorem e20_123 : Rn X d 20 123 LS ST M h = Rn X d 20 134 LS ST M h := r_goto mt_20 dX0_replayOne_123 rfl
theorem e20_126 : Rn X d 20 126 (l0 :: some (.ref a) :: t) ST M h = Rn X d 20 127 (l0 :: some (.ref a) :: t) (.ref a :: ST) M h := r_aload_n mt_20 dX0_replayOne_126 rfl
theorem e20_127 : Rn X d 20 127 (l0 :: l1 :: l2 :: l3 :: some (.int x) :: t) ST M h = Rn X d 20 129 (l0 :: l1 :: l2 :: l3 :: some (.int x) :: t) (.int x :: ST) M h := r_iload mt_20 dX0_replayOne_127 rfl
theorem e20_129 : Rn X d 20 129 (l0 :: l1 :: l2 :: l3 :: l4 :: some (.int x) :: t) ST M h = Rn X d 20 131 (l0 :: l1 :: l2 :: l3 :: l4 :: some (.int x) :: t) (.int x :: ST) M h := r_iload mt_20 dX0_replayOne_129 rfl
theorem e20_131 (hcs : Nat.ble (j_cs ST) 8 = true) : Rn X (d + 1) 20 131 LS (.int y :: .int x :: .ref a :: ST) M h = q_k X (Rn X d 23 0 [some (.ref a), some (.int x), some (.int y), none] [] M (j_h0 h)) h (d + 1) 20 134 LS ST := s_callS (Or.inl rfl) mt_20 dX0_replayOne_131 cl_0_87 mt_23 rfl (Nat.le_add_left _ _) rfl rfl rfl rfl hcs
theorem e20_134 : Rn X d 20 134 LS [] M h = some (.inl none, M, h) := r_vret mt_20 dX0_replayOne_134 rfl
theorem e21_0 : Rn X d 21 0 (l0 :: l1 :: l2 :: some (.int x) :: t) ST M h = Rn X d 21 1 (l0 :: l1 :: l2 :: some (.int x) :: t) (.int x :: ST) M h := r_iload_n mt_21 dX0_moveTons_0 rfl
theorem e21_1 : Rn X d 21 1 (some (.ref a) :: t) ST M h = Rn X d 21 2 (some (.ref a) :: t) (.ref a :: ST) M h := r_aload_n mt_21 dX0_moveTons_1 rfl
theorem e21_2 : Rn X d 21 2 (l0 :: some (.int x) :: t) ST M h = Rn X d 21 3 (l0 :: some (.int x) :: t) (.int x :: ST) M h := r_iload_n mt_21 dX0_moveTons_2 rfl
theorem e21_3 : Rn X d 21 3 LS (.int x :: .ref a :: ST) M h = q_ld X (M a) a x d 21 4 LS ST M h := s_iald mt_21 dX0_moveTons_3
theorem e21_4 : Rn X d 21 4 LS ST M h = Rn X d 21 7 LS (.int (zN 999) :: ST) M h := r_sipush mt_21 dX0_moveTons_4 c_si999
theorem e21_7 : Rn X d 21 7 (some (.ref a) :: t) ST M h = Rn X d 21 8 (some (.ref a) :: t) (.ref a :: ST) M h := r_aload_n mt_21 dX0_moveTons_7 rfl
theorem e21_8 : Rn X d 21 8 (l0 :: l1 :: some (.int x) :: t) ST M h = Rn X d 21 9 (l0 :: l1 :: some (.int x) :: t) (.int x :: ST) M h := r_iload_n mt_21 dX0_moveTons_8 rfl
theorem e21_9 : Rn X d 21 9 LS (.int x :: .ref a :: ST) M h = q_ld X (M a) a x d 21 10 LS ST M h := s_iald mt_21 dX0_moveTons_9
theorem e21_10 : Rn X d 21 10 LS (.int y :: .int x :: ST) M h = Rn X d 21 11 LS (.int (x - y) :: ST) M h := r_isub mt_21 dX0_moveTons_10
theorem e21_11 {v w : Nat} (h0 : v < 2147483648) (h1 : w < 2147483648) (hcs : Nat.ble (j_cs ST) 8 = true) : Rn X (d + 1) 21 11 LS (.int (zN w) :: .int (zN v) :: ST) M h = Rn X (d + 1) 21 14 LS (.int (zN (min v w)) :: ST) M h := s_min mt_21 dX0_moveTons_11 cl_0_70 h0 h1 hcs
theorem e21_14 {v w : Nat} (h0 : v < 2147483648) (h1 : w < 2147483648) (hcs : Nat.ble (j_cs ST) 8 = true) : Rn X (d + 1) 21 14 LS (.int (zN w) :: .int (zN v) :: ST) M h = Rn X (d + 1) 21 17 LS (.int (zN (min v w)) :: ST) M h := s_min mt_21 dX0_moveTons_14 cl_0_70 h0 h1 hcs
theorem e21_17 (ho : j_one l3 = true) : Rn X d 21 17 (l0 :: l1 :: l2 :: l3 :: l4 :: t) (.int x :: ST) M h = Rn X d 21 19 (l0 :: l1 :: l2 :: l3 :: some (.int x) :: t) ST M h := r_istore mt_21 dX0_moveTons_17 (by show 4 < _; simp only [List.length_cons]; omega) ho rfl
theorem e21_19 : Rn X d 21 19 (some (.ref a) :: t) ST M h = Rn X d 21 20 (some (.ref a) :: t) (.ref a :: ST) M h := r_aload_n mt_21 dX0_moveTons_19 rfl
theorem e21_20 : Rn X d 21 20 (l0 :: some (.int x) :: t) ST M h = Rn X d 21 21 (l0 :: some (.int x) :: t) (.int x :: ST) M h := r_iload_n mt_21 dX0_moveTons_20 rfl
theorem e21_21 : Rn X d 21 21 LS (.int x :: .ref a :: ST) M h = Rn X d 21 22 LS (.int x :: .ref a :: .int x :: .ref a :: ST) M h := r_dup2 mt_21 dX0_moveTons_21 rfl rfl
theorem e21_22 : Rn X d 21 22 LS (.int x :: .ref a :: ST) M h = q_ld X (M a) a x d 21 23 LS ST M h := s_iald mt_21 dX0_moveTons_22
theorem e21_23 : Rn X d 21 23 (l0 :: l1 :: l2 :: l3 :: some (.int x) :: t) ST M h = Rn X d 21 25 (l0 :: l1 :: l2 :: l3 :: some (.int x) :: t) (.int x :: ST) M h := r_iload mt_21 dX0_moveTons_23 rfl
theorem e21_25 : Rn X d 21 25 LS (.int y :: .int x :: ST) M h = Rn X d 21 26 LS (.int (x - y) :: ST) M h := r_isub mt_21 dX0_moveTons_25
theorem e21_26 : Rn X d 21 26 LS (.int y :: .int x :: .ref a :: ST) M h = q_st X (M a) a x y d 21 27 LS ST M h := s_iast mt_21 dX0_moveTons_26
theorem e21_27 : Rn X d 21 27 (some (.ref a) :: t) ST M h = Rn X d 21 28 (some (.ref a) :: t) (.ref a :: ST) M h := r_aload_n mt_21 dX0_moveTons_27 rfl
theorem e21_28 : Rn X d 21 28 (l0 :: l1 :: some (.int x) :: t) ST M h = Rn X d 21 29 (l0 :: l1 :: some (.int x) :: t) (.int x :: ST) M h := r_iload_n mt_21 dX0_moveTons_28 rfl
theorem e21_29 : Rn X d 21 29 LS (.int x :: .ref a :: ST) M h = Rn X d 21 30 LS (.int x :: .ref a :: .int x :: .ref a :: ST) M h := r_dup2 mt_21 dX0_moveTons_29 rfl rfl
theorem e21_30 : Rn X d 21 30 LS (.int x :: .ref a :: ST) M h = q_ld X (M a) a x d 21 31 LS ST M h := s_iald mt_21 dX0_moveTons_30
theorem e21_31 : Rn X d 21 31 (l0 :: l1 :: l2 :: l3 :: some (.int x) :: t) ST M h = Rn X d 21 33 (l0 :: l1 :: l2 :: l3 :: some (.int x) :: t) (.int x :: ST) M h := r_iload mt_21 dX0_moveTons_31 rfl
theorem e21_33 : Rn X d 21 33 LS (.int y :: .int x :: ST) M h = Rn X d 21 34 LS (.int (x + y) :: ST) M h := r_iadd mt_21 dX0_moveTons_33
theorem e21_34 : Rn X d 21 34 LS (.int y :: .int x :: .ref a :: ST) M h = q_st X (M a) a x y d 21 35 LS ST M h := s_iast mt_21 dX0_moveTons_34
theorem e21_35 : Rn X d 21 35 LS [] M h = some (.inl none, M, h) := r_vret mt_21 dX0_moveTons_35 rfl
theorem e22_0 : Rn X d 22 0 (some (.ref a) :: t) ST M h = Rn X d 22 1 (some (.ref a) :: t) (.ref a :: ST) M h := r_aload_n mt_22 dX0_swapTons_0 rfl
theorem e22_1 : Rn X d 22 1 (l0 :: some (.int x) :: t) ST M h = Rn X d 22 2 (l0 :: some (.int x) :: t) (.int x :: ST) M h := r_iload_n mt_22 dX0_swapTons_1 rfl
theorem e22_2 : Rn X d 22 2 LS (.int x :: .ref a :: ST) M h = q_ld X (M a) a x d 22 3 LS ST M h := s_iald mt_22 dX0_swapTons_2
theorem e22_3 (ho : j_one l2 = true) : Rn X d 22 3 (l0 :: l1 :: l2 :: l3 :: t) (.int x :: ST) M h = Rn X d 22 4 (l0 :: l1 :: l2 :: some (.int x) :: t) ST M h := r_istore_n mt_22 dX0_swapTons_3 (by show 3 < _; simp only [List.length_cons]; omega) ho rfl
theorem e22_4 : Rn X d 22 4 (some (.ref a) :: t) ST M h = Rn X d 22 5 (some (.ref a) :: t) (.ref a :: ST) M h := r_aload_n mt_22 dX0_swapTons_4 rfl
theorem e22_5 : Rn X d 22 5 (l0 :: some (.int x) :: t) ST M h = Rn X d 22 6 (l0 :: some (.int x) :: t) (.int x :: ST) M h := r_iload_n mt_22 dX0_swapTons_5 rfl
theorem e22_6 : Rn X d 22 6 (some (.ref a) :: t) ST M h = Rn X d 22 7 (some (.ref a) :: t) (.ref a :: ST) M h := r_aload_n mt_22 dX0_swapTons_6 rfl
theorem e22_7 : Rn X d 22 7 (l0 :: l1 :: some (.int x) :: t) ST M h = Rn X d 22 8 (l0 :: l1 :: some (.int x) :: t) (.int x :: ST) M h := r_iload_n mt_22 dX0_swapTons_7 rfl
theorem e22_8 : Rn X d 22 8 LS (.int x :: .ref a :: ST) M h = q_ld X (M a) a x d 22 9 LS ST M h := s_iald mt_22 dX0_swapTons_8
theorem e22_9 : Rn X d 22 9 LS (.int y :: .int x :: .ref a :: ST) M h = q_st X (M a) a x y d 22 10 LS ST M h := s_iast mt_22 dX0_swapTons_9
theorem e22_10 : Rn X d 22 10 (some (.ref a) :: t) ST M h = Rn X d 22 11 (some (.ref a) :: t) (.ref a :: ST) M h := r_aload_n mt_22 dX0_swapTons_10 rfl
theorem e22_11 : Rn X d 22 11 (l0 :: l1 :: some (.int x) :: t) ST M h = Rn X d 22 12 (l0 :: l1 :: some (.int x) :: t) (.int x :: ST) M h := r_iload_n mt_22 dX0_swapTons_11 rfl
theorem e22_12 : Rn X d 22 12 (l0 :: l1 :: l2 :: some (.int x) :: t) ST M h = Rn X d 22 13 (l0 :: l1 :: l2 :: some (.int x) :: t) (.int x :: ST) M h := r_iload_n mt_22 dX0_swapTons_12 rfl
theorem e22_13 : Rn X d 22 13 LS (.int y :: .int x :: .ref a :: ST) M h = q_st X (M a) a x y d 22 14 LS ST M h := s_iast mt_22 dX0_swapTons_13
theorem e22_14 : Rn X d 22 14 LS [] M h = some (.inl none, M, h) := r_vret mt_22 dX0_swapTons_14 rfl
theorem e23_0 : Rn X d 23 0 (some (.ref a) :: t) ST M h = Rn X d 23 1 (some (.ref a) :: t) (.ref a :: ST) M h := r_aload_n mt_23 dX0_levelTons_0 rfl
theorem e23_1 : Rn X d 23 1 (l0 :: some (.int x) :: t) ST M h = Rn X d 23 2 (l0 :: some (.int x) :: t) (.int x :: ST) M h := r_iload_n mt_23 dX0_levelTons_1 rfl
theorem e23_2 : Rn X d 23 2 LS (.int x :: .ref a :: ST) M h = q_ld X (M a) a x d 23 3 LS ST M h := s_iald mt_23 dX0_levelTons_2
theorem e23_3 : Rn X d 23 3 (some (.ref a) :: t) ST M h = Rn X d 23 4 (some (.ref a) :: t) (.ref a :: ST) M h := r_aload_n mt_23 dX0_levelTons_3 rfl
theorem e23_4 : Rn X d 23 4 (l0 :: l1 :: some (.int x) :: t) ST M h = Rn X d 23 5 (l0 :: l1 :: some (.int x) :: t) (.int x :: ST) M h := r_iload_n mt_23 dX0_levelTons_4 rfl
theorem e23_5 : Rn X d 23 5 LS (.int x :: .ref a :: ST) M h = q_ld X (M a) a x d 23 6 LS ST M h := s_iald mt_23 dX0_levelTons_5
theorem e23_6 : Rn X d 23 6 LS (.int y :: .int x :: ST) M h = Rn X d 23 7 LS (.int (x + y) :: ST) M h := r_iadd mt_23 dX0_levelTons_6
theorem e23_7 (ho : j_one l2 = true) : Rn X d 23 7 (l0 :: l1 :: l2 :: l3 :: t) (.int x :: ST) M h = Rn X d 23 8 (l0 :: l1 :: l2 :: some (.int x) :: t) ST M h := r_istore_n mt_23 dX0_levelTons_7 (by show 3 < _; simp only [List.length_cons]; omega) ho rfl
theorem e23_8 : Rn X d 23 8 (some (.ref a) :: t) ST M h = Rn X d 23 9 (some (.ref a) :: t) (.ref a :: ST) M h := r_aload_n mt_23 dX0_levelTons_8 rfl
theorem e23_9 : Rn X d 23 9 (l0 :: l1 :: some (.int x) :: t) ST M h = Rn X d 23 10 (l0 :: l1 :: some (.int x) :: t) (.int x :: ST) M h := r_iload_n mt_23 dX0_levelTons_9 rfl
theorem e23_10 : Rn X d 23 10 (l0 :: l1 :: l2 :: some (.int x) :: t) ST M h = Rn X d 23 11 (l0 :: l1 :: l2 :: some (.int x) :: t) (.int x :: ST) M h := r_iload_n mt_23 dX0_levelTons_10 rfl
theorem e23_11 : Rn X d 23 11 LS ST M h = Rn X d 23 12 LS (.int (zN 2) :: ST) M h := r_iconst mt_23 dX0_levelTons_11 c_ic2
theorem e23_12 : Rn X d 23 12 LS (.int y :: .int x :: ST) M h = q_dv X x y d 23 13 LS ST M h := s_idiv mt_23 dX0_levelTons_12
theorem e23_13 : Rn X d 23 13 LS (.int y :: .int x :: .ref a :: ST) M h = q_st X (M a) a x y d 23 14 LS ST M h := s_iast mt_23 dX0_levelTons_13
theorem e23_14 : Rn X d 23 14 (some (.ref a) :: t) ST M h = Rn X d 23 15 (some (.ref a) :: t) (.ref a :: ST) M h := r_aload_n mt_23 dX0_levelTons_14 rfl
theorem e23_15 : Rn X d 23 15 (l0 :: some (.int x) :: t) ST M h = Rn X d 23 16 (l0 :: some (.int x) :: t) (.int x :: ST) M h := r_iload_n mt_23 dX0_levelTons_15 rfl
theorem e23_16 : Rn X d 23 16 (l0 :: l1 :: l2 :: some (.int x) :: t) ST M h = Rn X d 23 17 (l0 :: l1 :: l2 :: some (.int x) :: t) (.int x :: ST) M h := r_iload_n mt_23 dX0_levelTons_16 rfl
theorem e23_17 : Rn X d 23 17 (some (.ref a) :: t) ST M h = Rn X d 23 18 (some (.ref a) :: t) (.ref a :: ST) M h := r_aload_n mt_23 dX0_levelTons_17 rfl
theorem e23_18 : Rn X d 23 18 (l0 :: l1 :: some (.int x) :: t) ST M h = Rn X d 23 19 (l0 :: l1 :: some (.int x) :: t) (.int x :: ST) M h := r_iload_n mt_23 dX0_levelTons_18 rfl
theorem e23_19 : Rn X d 23 19 LS (.int x :: .ref a :: ST) M h = q_ld X (M a) a x d 23 20 LS ST M h := s_iald mt_23 dX0_levelTons_19
theorem e23_20 : Rn X d 23 20 LS (.int y :: .int x :: ST) M h = Rn X d 23 21 LS (.int (x - y) :: ST) M h := r_isub mt_23 dX0_levelTons_20
theorem e23_21 : Rn X d 23 21 LS (.int y :: .int x :: .ref a :: ST) M h = q_st X (M a) a x y d 23 22 LS ST M h := s_iast mt_23 dX0_levelTons_21
theorem e23_22 : Rn X d 23 22 LS [] M h = some (.inl none, M, h) := r_vret mt_23 dX0_levelTons_22 rfl
theorem e24_0 : Rn X d 24 0 (some (.ref a) :: t) ST M h = Rn X d 24 1 (some (.ref a) :: t) (.ref a :: ST) M h := r_aload_n mt_24 dX1_init_0 rfl
theorem e24_1 (hcs : Nat.ble (j_cs ST) 8 = true) : Rn X (d + 1) 24 1 LS (.ref a :: ST) M h = Rn X (d + 1) 24 4 LS ST M h := s_obj mt_24 dX1_init_1 cl_1_3 hcs
theorem e24_4 : Rn X d 24 4 (some (.ref a) :: t) ST M h = Rn X d 24 5 (some (.ref a) :: t) (.ref a :: ST) M h := r_aload_n mt_24 dX1_init_4 rfl
theorem e24_5 : Rn X d 24 5 LS ST M h = Rn X d 24 7 LS (.int (zN 8) :: ST) M h := r_bipush mt_24 dX1_init_5 c_bi8
theorem e24_7 {n v c z : Nat} (h0 : n < 1000) (h1 : v ≤ 1000) : Rn X d 24 7 LS (.int (zN v) :: ST) M (n, true, c, z) = Rn X d 24 9 LS (.ref n :: ST) (va_up M n (.inl (0, v, .inl (fun _ => 0)))) (n + 1, true, c + 1, z + v) := s_newI mt_24 dX1_init_7 h0 h1
theorem e24_9 : Rn X d 24 9 LS (.ref b :: .ref a :: ST) M h = q_p X (M a) a 1 5 (.ref b) d 24 12 LS ST M h := s_putF mt_24 dX1_init_9 f_1_9 rfl (by decide +kernel) rfl rfl
theorem e24_12 : Rn X d 24 12 (some (.ref a) :: t) ST M h = Rn X d 24 13 (some (.ref a) :: t) (.ref a :: ST) M h := r_aload_n mt_24 dX1_init_12 rfl
theorem e24_13 : Rn X d 24 13 LS ST M h = Rn X d 24 15 LS (.int (zN 8) :: ST) M h := r_bipush mt_24 dX1_init_13 c_bi8
theorem e24_15 {n v c z : Nat} (h0 : n < 1000) (h1 : v ≤ 1000) : Rn X d 24 15 LS (.int (zN v) :: ST) M (n, true, c, z) = Rn X d 24 17 LS (.ref n :: ST) (va_up M n (.inl (0, v, .inl (fun _ => 0)))) (n + 1, true, c + 1, z + v) := s_newI mt_24 dX1_init_15 h0 h1
theorem e24_17 : Rn X d 24 17 LS (.ref b :: .ref a :: ST) M h = q_p X (M a) a 1 6 (.ref b) d 24 20 LS ST M h := s_putF mt_24 dX1_init_17 f_1_15 rfl (by decide +kernel) rfl rfl
theorem e24_20 : Rn X d 24 20 LS [] M h = some (.inl none, M, h) := r_vret mt_24 dX1_init_20 rfl
theorem e25_0 : Rn X d 25 0 (some (.ref a) :: t) ST M h = Rn X d 25 1 (some (.ref a) :: t) (.ref a :: ST) M h := r_aload_n mt_25 dX1_restart_0 rfl
theorem e25_1 : Rn X d 25 1 LS ST M h = Rn X d 25 2 LS (.int (zN 0) :: ST) M h := r_iconst mt_25 dX1_restart_1 c_ic0
theorem e25_2 : Rn X d 25 2 LS (.int x :: .ref a :: ST) M h = q_p X (M a) a 1 0 (.int x) d 25 5 LS ST M h := s_putN mt_25 dX1_restart_2 f_1_18 rfl rfl rfl
theorem e25_5 : Rn X d 25 5 (some (.ref a) :: t) ST M h = Rn X d 25 6 (some (.ref a) :: t) (.ref a :: ST) M h := r_aload_n mt_25 dX1_restart_5 rfl
theorem e25_6 : Rn X d 25 6 LS ST M h = Rn X d 25 7 LS (.int (zN 0) :: ST) M h := r_iconst mt_25 dX1_restart_6 c_ic0
theorem e25_7 : Rn X d 25 7 LS (.int x :: .ref a :: ST) M h = q_p X (M a) a 1 1 (.int x) d 25 10 LS ST M h := s_putN mt_25 dX1_restart_7 f_1_22 rfl rfl rfl
theorem e25_10 : Rn X d 25 10 (some (.ref a) :: t) ST M h = Rn X d 25 11 (some (.ref a) :: t) (.ref a :: ST) M h := r_aload_n mt_25 dX1_restart_10 rfl
theorem e25_11 : Rn X d 25 11 LS ST M h = Rn X d 25 12 LS (.int (zN 1) :: ST) M h := r_iconst mt_25 dX1_restart_11 c_ic1
theorem e25_12 {v : Nat} (h0 : v < 2) : Rn X d 25 12 LS (.int (zN v) :: .ref a :: ST) M h = q_p X (M a) a 1 2 (.int (zN v)) d 25 15 LS ST M h := s_putN mt_25 dX1_restart_12 f_1_25 rfl (zN_nb h0) (zN_fb h0)
theorem e25_15 : Rn X d 25 15 (some (.ref a) :: t) ST M h = Rn X d 25 16 (some (.ref a) :: t) (.ref a :: ST) M h := r_aload_n mt_25 dX1_restart_15 rfl
theorem e25_16 : Rn X d 25 16 LS ST M h = Rn X d 25 17 LS (.int (zN 0) :: ST) M h := r_iconst mt_25 dX1_restart_16 c_ic0
theorem e25_17 : Rn X d 25 17 LS (.int x :: .ref a :: ST) M h = q_p X (M a) a 1 3 (.int x) d 25 20 LS ST M h := s_putN mt_25 dX1_restart_17 f_1_29 rfl rfl rfl
theorem e25_20 : Rn X d 25 20 (some (.ref a) :: t) ST M h = Rn X d 25 21 (some (.ref a) :: t) (.ref a :: ST) M h := r_aload_n mt_25 dX1_restart_20 rfl
theorem e25_21 : Rn X d 25 21 LS ST M h = Rn X d 25 22 LS (.int (zN 0) :: ST) M h := r_iconst mt_25 dX1_restart_21 c_ic0
theorem e25_22 : Rn X d 25 22 LS (.int x :: .ref a :: ST) M h = q_p X (M a) a 1 4 (.int x) d 25 25 LS ST M h := s_putN mt_25 dX1_restart_22 f_1_32 rfl rfl rfl
theorem e25_25 : Rn X d 25 25 LS ST M h = Rn X d 25 26 LS (.int (zN 0) :: ST) M h := r_iconst mt_25 dX1_restart_25 c_ic0
theorem e25_26 (ho : j_one l0 = true) : Rn X d 25 26 (l0 :: l1 :: t) (.int x :: ST) M h = Rn X d 25 27 (l0 :: some (.int x) :: t) ST M h := r_istore_n mt_25 dX1_restart_26 (by show 1 < _; simp only [List.length_cons]; omega) ho rfl
theorem e25_27 : Rn X d 25 27 (l0 :: some (.int x) :: t) ST M h = Rn X d 25 28 (l0 :: some (.int x) :: t) (.int x :: ST) M h := r_iload_n mt_25 dX1_restart_27 rfl
theorem e25_28 : Rn X d 25 28 LS ST M h = Rn X d 25 30 LS (.int (zN 8) :: ST) M h := r_bipush mt_25 dX1_restart_28 c_bi8
theorem e25_30 : Rn X d 25 30 LS (.int y :: .int x :: ST) M h = q_le X y x d 25 53 33 LS ST M h := s_icge mt_25 dX1_restart_30 rfl
theorem e25_33 : Rn X d 25 33 (some (.ref a) :: t) ST M h = Rn X d 25 34 (some (.ref a) :: t) (.ref a :: ST) M h := r_aload_n mt_25 dX1_restart_33 rfl
theorem e25_34 : Rn X d 25 34 LS (.ref a :: ST) M h = q_g X (M a) 1 5 d 25 37 LS ST M h := s_get mt_25 dX1_restart_34 f_1_9
theorem e25_37 : Rn X d 25 37 (l0 :: some (.int x) :: t) ST M h = Rn X d 25 38 (l0 :: some (.int x) :: t) (.int x :: ST) M h := r_iload_n mt_25 dX1_restart_37 rfl
theorem e25_38 : Rn X d 25 38 LS ST M h = Rn X d 25 39 LS (.int (zN 0) :: ST) M h := r_iconst mt_25 dX1_restart_38 c_ic0
theorem e25_39 : Rn X d 25 39 LS (.int y :: .int x :: .ref a :: ST) M h = q_st X (M a) a x y d 25 40 LS ST M h := s_iast mt_25 dX1_restart_39
theorem e25_40 : Rn X d 25 40 (some (.ref a) :: t) ST M h = Rn X d 25 41 (some (.ref a) :: t) (.ref a :: ST) M h := r_aload_n mt_25 dX1_restart_40 rfl
theorem e25_41 : Rn X d 25 41 LS (.ref a :: ST) M h = q_g X (M a) 1 6 d 25 44 LS ST M h := s_get mt_25 dX1_restart_41 f_1_15
theorem e25_44 : Rn X d 25 44 (l0 :: some (.int x) :: t) ST M h = Rn X d 25 45 (l0 :: some (.int x) :: t) (.int x :: ST) M h := r_iload_n mt_25 dX1_restart_44 rfl
theorem e25_45 : Rn X d 25 45 LS ST M h = Rn X d 25 46 LS (.int (zN 0) :: ST) M h := r_iconst mt_25 dX1_restart_45 c_ic0
theorem e25_46 : Rn X d 25 46 LS (.int y :: .int x :: .ref a :: ST) M h = q_st X (M a) a x y d 25 47 LS ST M h := s_iast mt_25 dX1_restart_46
theorem e25_47 (ho : j_one l0 = true) : Rn X d 25 47 (l0 :: some (.int x) :: t) ST M h = Rn X d 25 50 (l0 :: some (.int (x + (zN 1))) :: t) ST M h := r_iinc mt_25 dX1_restart_47 rfl (by simp only [List.length_cons]; omega) ho c_ic1 rfl
theorem e25_50 : Rn X d 25 50 LS ST M h = Rn X d 25 27 LS ST M h := r_goto mt_25 dX1_restart_50 rfl
theorem e25_53 : Rn X d 25 53 LS [] M h = some (.inl none, M, h) := r_vret mt_25 dX1_restart_53 rfl
theorem e26_0 : Rn X d 26 0 (some (.ref a) :: t) ST M h = Rn X d 26 1 (some (.ref a) :: t) (.ref a :: ST) M h := r_aload_n mt_26 dX1_copyFrom_0 rfl
theorem e26_1 : Rn X d 26 1 (l0 :: some (.ref a) :: t) ST M h = Rn X d 26 2 (l0 :: some (.ref a) :: t) (.ref a :: ST) M h := r_aload_n mt_26 dX1_copyFrom_1 rfl
theorem e26_2 : Rn X d 26 2 LS (.ref a :: ST) M h = q_g X (M a) 1 0 d 26 5 LS ST M h := s_get mt_26 dX1_copyFrom_2 f_1_18
theorem e26_5 : Rn X d 26 5 LS (.int x :: .ref a :: ST) M h = q_p X (M a) a 1 0 (.int x) d 26 8 LS ST M h := s_putN mt_26 dX1_copyFrom_5 f_1_18 rfl rfl rfl
theorem e26_8 : Rn X d 26 8 (some (.ref a) :: t) ST M h = Rn X d 26 9 (some (.ref a) :: t) (.ref a :: ST) M h := r_aload_n mt_26 dX1_copyFrom_8 rfl
theorem e26_9 : Rn X d 26 9 (l0 :: some (.ref a) :: t) ST M h = Rn X d 26 10 (l0 :: some (.ref a) :: t) (.ref a :: ST) M h := r_aload_n mt_26 dX1_copyFrom_9 rfl
theorem e26_10 : Rn X d 26 10 LS (.ref a :: ST) M h = q_g X (M a) 1 1 d 26 13 LS ST M h := s_get mt_26 dX1_copyFrom_10 f_1_22
theorem e26_13 : Rn X d 26 13 LS (.int x :: .ref a :: ST) M h = q_p X (M a) a 1 1 (.int x) d 26 16 LS ST M h := s_putN mt_26 dX1_copyFrom_13 f_1_22 rfl rfl rfl
theorem e26_16 : Rn X d 26 16 (some (.ref a) :: t) ST M h = Rn X d 26 17 (some (.ref a) :: t) (.ref a :: ST) M h := r_aload_n mt_26 dX1_copyFrom_16 rfl
theorem e26_17 : Rn X d 26 17 (l0 :: some (.ref a) :: t) ST M h = Rn X d 26 18 (l0 :: some (.ref a) :: t) (.ref a :: ST) M h := r_aload_n mt_26 dX1_copyFrom_17 rfl
theorem e26_18 : Rn X d 26 18 LS (.ref a :: ST) M h = q_g X (M a) 1 2 d 26 21 LS ST M h := s_get mt_26 dX1_copyFrom_18 f_1_25
theorem e26_21 {v : Nat} (h0 : v < 2) : Rn X d 26 21 LS (.int (zN v) :: .ref a :: ST) M h = q_p X (M a) a 1 2 (.int (zN v)) d 26 24 LS ST M h := s_putN mt_26 dX1_copyFrom_21 f_1_25 rfl (zN_nb h0) (zN_fb h0)
theorem e26_24 : Rn X d 26 24 (some (.ref a) :: t) ST M h = Rn X d 26 25 (some (.ref a) :: t) (.ref a :: ST) M h := r_aload_n mt_26 dX1_copyFrom_24 rfl
theorem e26_25 : Rn X d 26 25 (l0 :: some (.ref a) :: t) ST M h = Rn X d 26 26 (l0 :: some (.ref a) :: t) (.ref a :: ST) M h := r_aload_n mt_26 dX1_copyFrom_25 rfl
theorem e26_26 : Rn X d 26 26 LS (.ref a :: ST) M h = q_g X (M a) 1 3 d 26 29 LS ST M h := s_get mt_26 dX1_copyFrom_26 f_1_29
theorem e26_29 : Rn X d 26 29 LS (.int x :: .ref a :: ST) M h = q_p X (M a) a 1 3 (.int x) d 26 32 LS ST M h := s_putN mt_26 dX1_copyFrom_29 f_1_29 rfl rfl rfl
theorem e26_32 : Rn X d 26 32 (some (.ref a) :: t) ST M h = Rn X d 26 33 (some (.ref a) :: t) (.ref a :: ST) M h := r_aload_n mt_26 dX1_copyFrom_32 rfl
theorem e26_33 : Rn X d 26 33 (l0 :: some (.ref a) :: t) ST M h = Rn X d 26 34 (l0 :: some (.ref a) :: t) (.ref a :: ST) M h := r_aload_n mt_26 dX1_copyFrom_33 rfl
theorem e26_34 : Rn X d 26 34 LS (.ref a :: ST) M h = q_g X (M a) 1 4 d 26 37 LS ST M h := s_get mt_26 dX1_copyFrom_34 f_1_32
theorem e26_37 : Rn X d 26 37 LS (.int x :: .ref a :: ST) M h = q_p X (M a) a 1 4 (.int x) d 26 40 LS ST M h := s_putN mt_26 dX1_copyFrom_37 f_1_32 rfl rfl rfl
theorem e26_40 : Rn X d 26 40 (l0 :: some (.ref a) :: t) ST M h = Rn X d 26 41 (l0 :: some (.ref a) :: t) (.ref a :: ST) M h := r_aload_n mt_26 dX1_copyFrom_40 rfl
theorem e26_41 : Rn X d 26 41 LS (.ref a :: ST) M h = q_g X (M a) 1 5 d 26 44 LS ST M h := s_get mt_26 dX1_copyFrom_41 f_1_9
theorem e26_44 : Rn X d 26 44 LS ST M h = Rn X d 26 45 LS (.int (zN 0) :: ST) M h := r_iconst mt_26 dX1_copyFrom_44 c_ic0
theorem e26_45 : Rn X d 26 45 (some (.ref a) :: t) ST M h = Rn X d 26 46 (some (.ref a) :: t) (.ref a :: ST) M h := r_aload_n mt_26 dX1_copyFrom_45 rfl
theorem e26_46 : Rn X d 26 46 LS (.ref a :: ST) M h = q_g X (M a) 1 5 d 26 49 LS ST M h := s_get mt_26 dX1_copyFrom_46 f_1_9
theorem e26_49 : Rn X d 26 49 LS ST M h = Rn X d 26 50 LS (.int (zN 0) :: ST) M h := r_iconst mt_26 dX1_copyFrom_49 c_ic0
theorem e26_50 : Rn X d 26 50 LS ST M h = Rn X d 26 52 LS (.int (zN 8) :: ST) M h := r_bipush mt_26 dX1_copyFrom_50 c_bi8
theorem e26_52 : Rn X (d + 1) 26 52 LS ([.int z, .int y, .ref b, .int x, .ref a]) M h = q_cp X (M a) (M b) b x y z (d + 1) 26 55 LS M h := s_cpy mt_26 dX1_copyFrom_52 cl_1_35
theorem e26_55 : Rn X d 26 55 (l0 :: some (.ref a) :: t) ST M h = Rn X d 26 56 (l0 :: some (.ref a) :: t) (.ref a :: ST) M h := r_aload_n mt_26 dX1_copyFrom_55 rfl
theorem e26_56 : Rn X d 26 56 LS (.ref a :: ST) M h = q_g X (M a) 1 6 d 26 59 LS ST M h := s_get mt_26 dX1_copyFrom_56 f_1_15
theorem e26_59 : Rn X d 26 59 LS ST M h = Rn X d 26 60 LS (.int (zN 0) :: ST) M h := r_iconst mt_26 dX1_copyFrom_59 c_ic0
theorem e26_60 : Rn X d 26 60 (some (.ref a) :: t) ST M h = Rn X d 26 61 (some (.ref a) :: t) (.ref a :: ST) M h := r_aload_n mt_26 dX1_copyFrom_60 rfl
theorem e26_61 : Rn X d 26 61 LS (.ref a :: ST) M h = q_g X (M a) 1 6 d 26 64 LS ST M h := s_get mt_26 dX1_copyFrom_61 f_1_15
theorem e26_64 : Rn X d 26 64 LS ST M h = Rn X d 26 65 LS (.int (zN 0) :: ST) M h := r_iconst mt_26 dX1_copyFrom_64 c_ic0
theorem e26_65 : Rn X d 26 65 LS ST M h = Rn X d 26 67 LS (.int (zN 8) :: ST) M h := r_bipush mt_26 dX1_copyFrom_65 c_bi8
theorem e26_67 : Rn X (d + 1) 26 67 LS ([.int z, .int y, .ref b, .int x, .ref a]) M h = q_cp X (M a) (M b) b x y z (d + 1) 26 70 LS M h := s_cpy mt_26 dX1_copyFrom_67 cl_1_35
theorem e26_70 : Rn X d 26 70 LS [] M h = some (.inl none, M, h) := r_vret mt_26 dX1_copyFrom_70 rfl
theorem e27_0 : Rn X d 27 0 (some (.ref a) :: t) ST M h = Rn X d 27 1 (some (.ref a) :: t) (.ref a :: ST) M h := r_aload_n mt_27 dX1_keepSnapshot_0 rfl
theorem e27_1 : Rn X d 27 1 (some (.ref a) :: t) ST M h = Rn X d 27 2 (some (.ref a) :: t) (.ref a :: ST) M h := r_aload_n mt_27 dX1_keepSnapshot_1 rfl
theorem e27_2 : Rn X d 27 2 LS (.ref a :: ST) M h = q_g X (M a) 1 0 d 27 5 LS ST M h := s_get mt_27 dX1_keepSnapshot_2 f_1_18
theorem e27_5 : Rn X d 27 5 LS (.int x :: .ref a :: ST) M h = q_p X (M a) a 1 1 (.int x) d 27 8 LS ST M h := s_putN mt_27 dX1_keepSnapshot_5 f_1_22 rfl rfl rfl
theorem e27_8 : Rn X d 27 8 (some (.ref a) :: t) ST M h = Rn X d 27 9 (some (.ref a) :: t) (.ref a :: ST) M h := r_aload_n mt_27 dX1_keepSnapshot_8 rfl
theorem e27_9 : Rn X d 27 9 LS (.ref a :: ST) M h = q_g X (M a) 1 5 d 27 12 LS ST M h := s_get mt_27 dX1_keepSnapshot_9 f_1_9
theorem e27_12 : Rn X d 27 12 LS ST M h = Rn X d 27 13 LS (.int (zN 0) :: ST) M h := r_iconst mt_27 dX1_keepSnapshot_12 c_ic0
theorem e27_13 : Rn X d 27 13 (some (.ref a) :: t) ST M h = Rn X d 27 14 (some (.ref a) :: t) (.ref a :: ST) M h := r_aload_n mt_27 dX1_keepSnapshot_13 rfl
theorem e27_14 : Rn X d 27 14 LS (.ref a :: ST) M h = q_g X (M a) 1 6 d 27 17 LS ST M h := s_get mt_27 dX1_keepSnapshot_14 f_1_15
theorem e27_17 : Rn X d 27 17 LS ST M h = Rn X d 27 18 LS (.int (zN 0) :: ST) M h := r_iconst mt_27 dX1_keepSnapshot_17 c_ic0
theorem e27_18 : Rn X d 27 18 LS ST M h = Rn X d 27 20 LS (.int (zN 8) :: ST) M h := r_bipush mt_27 dX1_keepSnapshot_18 c_bi8
theorem e27_20 : Rn X (d + 1) 27 20 LS ([.int z, .int y, .ref b, .int x, .ref a]) M h = q_cp X (M a) (M b) b x y z (d + 1) 27 23 LS M h := s_cpy mt_27 dX1_keepSnapshot_20 cl_1_35
theorem e27_23 : Rn X d 27 23 LS [] M h = some (.inl none, M, h) := r_vret mt_27 dX1_keepSnapshot_23 rfl
theorem e28_0 : Rn X d 28 0 (some (.ref a) :: t) ST M h = Rn X d 28 1 (some (.ref a) :: t) (.ref a :: ST) M h := r_aload_n mt_28 dX1_fallBack_0 rfl
theorem e28_1 : Rn X d 28 1 LS (.ref a :: ST) M h = q_g X (M a) 1 0 d 28 4 LS ST M h := s_get mt_28 dX1_fallBack_1 f_1_18
theorem e28_4 : Rn X d 28 4 (some (.ref a) :: t) ST M h = Rn X d 28 5 (some (.ref a) :: t) (.ref a :: ST) M h := r_aload_n mt_28 dX1_fallBack_4 rfl
theorem e28_5 : Rn X d 28 5 LS (.ref a :: ST) M h = q_g X (M a) 1 1 d 28 8 LS ST M h := s_get mt_28 dX1_fallBack_5 f_1_22
theorem e28_8 : Rn X d 28 8 LS (.int y :: .int x :: ST) M h = Rn X d 28 9 LS (.int (x - y) :: ST) M h := r_isub mt_28 dX1_fallBack_8
theorem e28_9 (ho : j_one l0 = true) : Rn X d 28 9 (l0 :: l1 :: t) (.int x :: ST) M h = Rn X d 28 10 (l0 :: some (.int x) :: t) ST M h := r_istore_n mt_28 dX1_fallBack_9 (by show 1 < _; simp only [List.length_cons]; omega) ho rfl
theorem e28_10 : Rn X d 28 10 (some (.ref a) :: t) ST M h = Rn X d 28 11 (some (.ref a) :: t) (.ref a :: ST) M h := r_aload_n mt_28 dX1_fallBack_10 rfl
theorem e28_11 : Rn X d 28 11 (some (.ref a) :: t) ST M h = Rn X d 28 12 (some (.ref a) :: t) (.ref a :: ST) M h := r_aload_n mt_28 dX1_fallBack_11 rfl
theorem e28_12 : Rn X d 28 12 LS (.ref a :: ST) M h = q_g X (M a) 1 1 d 28 15 LS ST M h := s_get mt_28 dX1_fallBack_12 f_1_22
theorem e28_15 : Rn X d 28 15 LS (.int x :: .ref a :: ST) M h = q_p X (M a) a 1 0 (.int x) d 28 18 LS ST M h := s_putN mt_28 dX1_fallBack_15 f_1_18 rfl rfl rfl
theorem e28_18 : Rn X d 28 18 (some (.ref a) :: t) ST M h = Rn X d 28 19 (some (.ref a) :: t) (.ref a :: ST) M h := r_aload_n mt_28 dX1_fallBack_18 rfl
theorem e28_19 : Rn X d 28 19 LS (.ref a :: ST) M h = q_g X (M a) 1 6 d 28 22 LS ST M h := s_get mt_28 dX1_fallBack_19 f_1_15
theorem e28_22 : Rn X d 28 22 LS ST M h = Rn X d 28 23 LS (.int (zN 0) :: ST) M h := r_iconst mt_28 dX1_fallBack_22 c_ic0
theorem e28_23 : Rn X d 28 23 (some (.ref a) :: t) ST M h = Rn X d 28 24 (some (.ref a) :: t) (.ref a :: ST) M h := r_aload_n mt_28 dX1_fallBack_23 rfl
theorem e28_24 : Rn X d 28 24 LS (.ref a :: ST) M h = q_g X (M a) 1 5 d 28 27 LS ST M h := s_get mt_28 dX1_fallBack_24 f_1_9
theorem e28_27 : Rn X d 28 27 LS ST M h = Rn X d 28 28 LS (.int (zN 0) :: ST) M h := r_iconst mt_28 dX1_fallBack_27 c_ic0
theorem e28_28 : Rn X d 28 28 LS ST M h = Rn X d 28 30 LS (.int (zN 8) :: ST) M h := r_bipush mt_28 dX1_fallBack_28 c_bi8
theorem e28_30 : Rn X (d + 1) 28 30 LS ([.int z, .int y, .ref b, .int x, .ref a]) M h = q_cp X (M a) (M b) b x y z (d + 1) 28 33 LS M h := s_cpy mt_28 dX1_fallBack_30 cl_1_35
theorem e28_33 : Rn X d 28 33 (some (.ref a) :: t) ST M h = Rn X d 28 34 (some (.ref a) :: t) (.ref a :: ST) M h := r_aload_n mt_28 dX1_fallBack_33 rfl
theorem e28_34 : Rn X d 28 34 LS (.int x :: ST) M h = Rn X d 28 35 LS (.int x :: .int x :: ST) M h := r_dup mt_28 dX1_fallBack_34 rfl
theorem e28_34r : Rn X d 28 34 LS (.ref a :: ST) M h = Rn X d 28 35 LS (.ref a :: .ref a :: ST) M h := r_dup mt_28 dX1_fallBack_34 rfl
theorem e28_35 : Rn X d 28 35 LS (.ref a :: ST) M h = q_g X (M a) 1 4 d 28 38 LS ST M h := s_get mt_28 dX1_fallBack_35 f_1_32
theorem e28_38 : Rn X d 28 38 LS ST M h = Rn X d 28 39 LS (.int (zN 1) :: ST) M h := r_iconst mt_28 dX1_fallBack_38 c_ic1
theorem e28_39 : Rn X d 28 39 LS (.int y :: .int x :: ST) M h = Rn X d 28 40 LS (.int (x + y) :: ST) M h := r_iadd mt_28 dX1_fallBack_39
theorem e28_40 : Rn X d 28 40 LS (.int x :: .ref a :: ST) M h = q_p X (M a) a 1 4 (.int x) d 28 43 LS ST M h := s_putN mt_28 dX1_fallBack_40 f_1_32 rfl rfl rfl
theorem e28_43 : Rn X d 28 43 (l0 :: some (.int x) :: t) ST M h = Rn X d 28 44 (l0 :: some (.int x) :: t) (.int x :: ST) M h := r_iload_n mt_28 dX1_fallBack_43 rfl
theorem e28_44 : Rn X d 28 44 LS ([.int x]) M h = some (.inl (some (.int x)), M, h) := r_iret mt_28 dX1_fallBack_44 rfl
theorem e29_0 : Rn X d 29 0 LS ST M h = Rn X d 29 1 LS (.int (zN 0) :: ST) M h := r_iconst mt_29 dX1_sumOfTons_0 c_ic0
theorem e29_1 (ho : j_one l0 = true) : Rn X d 29 1 (l0 :: l1 :: t) (.int x :: ST) M h = Rn X d 29 2 (l0 :: some (.int x) :: t) ST M h := r_istore_n mt_29 dX1_sumOfTons_1 (by show 1 < _; simp only [List.length_cons]; omega) ho rfl
theorem e29_2 : Rn X d 29 2 LS ST M h = Rn X d 29 3 LS (.int (zN 0) :: ST) M h := r_iconst mt_29 dX1_sumOfTons_2 c_ic0
theorem e29_3 (ho : j_one l1 = true) : Rn X d 29 3 (l0 :: l1 :: l2 :: t) (.int x :: ST) M h = Rn X d 29 4 (l0 :: l1 :: some (.int x) :: t) ST M h := r_istore_n mt_29 dX1_sumOfTons_3 (by show 2 < _; simp only [List.length_cons]; omega) ho rfl
theorem e29_4 : Rn X d 29 4 (l0 :: l1 :: some (.int x) :: t) ST M h = Rn X d 29 5 (l0 :: l1 :: some (.int x) :: t) (.int x :: ST) M h := r_iload_n mt_29 dX1_sumOfTons_4 rfl
theorem e29_5 : Rn X d 29 5 LS ST M h = Rn X d 29 7 LS (.int (zN 8) :: ST) M h := r_bipush mt_29 dX1_sumOfTons_5 c_bi8
theorem e29_7 : Rn X d 29 7 LS (.int y :: .int x :: ST) M h = q_le X y x d 29 25 10 LS ST M h := s_icge mt_29 dX1_sumOfTons_7 rfl
theorem e29_10 : Rn X d 29 10 (l0 :: some (.int x) :: t) ST M h = Rn X d 29 11 (l0 :: some (.int x) :: t) (.int x :: ST) M h := r_iload_n mt_29 dX1_sumOfTons_10 rfl
theorem e29_11 : Rn X d 29 11 (some (.ref a) :: t) ST M h = Rn X d 29 12 (some (.ref a) :: t) (.ref a :: ST) M h := r_aload_n mt_29 dX1_sumOfTons_11 rfl
theorem e29_12 : Rn X d 29 12 LS (.ref a :: ST) M h = q_g X (M a) 1 5 d 29 15 LS ST M h := s_get mt_29 dX1_sumOfTons_12 f_1_9
theorem e29_15 : Rn X d 29 15 (l0 :: l1 :: some (.int x) :: t) ST M h = Rn X d 29 16 (l0 :: l1 :: some (.int x) :: t) (.int x :: ST) M h := r_iload_n mt_29 dX1_sumOfTons_15 rfl
theorem e29_16 : Rn X d 29 16 LS (.int x :: .ref a :: ST) M h = q_ld X (M a) a x d 29 17 LS ST M h := s_iald mt_29 dX1_sumOfTons_16
theorem e29_17 : Rn X d 29 17 LS (.int y :: .int x :: ST) M h = Rn X d 29 18 LS (.int (x + y) :: ST) M h := r_iadd mt_29 dX1_sumOfTons_17
theorem e29_18 (ho : j_one l0 = true) : Rn X d 29 18 (l0 :: l1 :: t) (.int x :: ST) M h = Rn X d 29 19 (l0 :: some (.int x) :: t) ST M h := r_istore_n mt_29 dX1_sumOfTons_18 (by show 1 < _; simp only [List.length_cons]; omega) ho rfl
theorem e29_19 (ho : j_one l1 = true) : Rn X d 29 19 (l0 :: l1 :: some (.int x) :: t) ST M h = Rn X d 29 22 (l0 :: l1 :: some (.int (x + (zN 1))) :: t) ST M h := r_iinc mt_29 dX1_sumOfTons_19 rfl (by simp only [List.length_cons]; omega) ho c_ic1 rfl
theorem e29_22 : Rn X d 29 22 LS ST M h = Rn X d 29 4 LS ST M h := r_goto mt_29 dX1_sumOfTons_22 rfl
theorem e29_25 : Rn X d 29 25 (l0 :: some (.int x) :: t) ST M h = Rn X d 29 26 (l0 :: some (.int x) :: t) (.int x :: ST) M h := r_iload_n mt_29 dX1_sumOfTons_25 rfl
theorem e29_26 : Rn X d 29 26 LS ([.int x]) M h = some (.inl (some (.int x)), M, h) := r_iret mt_29 dX1_sumOfTons_26 rfl
theorem e30_0 : Rn X d 30 0 LS ST M h = Rn X d 30 1 LS (.int (zN 0) :: ST) M h := r_iconst mt_30 dX1_hasHolds_0 c_ic0
theorem e30_1 (ho : j_one l1 = true) : Rn X d 30 1 (l0 :: l1 :: l2 :: t) (.int x :: ST) M h = Rn X d 30 2 (l0 :: l1 :: some (.int x) :: t) ST M h := r_istore_n mt_30 dX1_hasHolds_1 (by show 2 < _; simp only [List.length_cons]; omega) ho rfl
theorem e30_2 : Rn X d 30 2 (l0 :: l1 :: some (.int x) :: t) ST M h = Rn X d 30 3 (l0 :: l1 :: some (.int x) :: t) (.int x :: ST) M h := r_iload_n mt_30 dX1_hasHolds_2 rfl
theorem e30_3 : Rn X d 30 3 LS ST M h = Rn X d 30 5 LS (.int (zN 8) :: ST) M h := r_bipush mt_30 dX1_hasHolds_3 c_bi8
theorem e30_5 : Rn X d 30 5 LS (.int y :: .int x :: ST) M h = q_le X y x d 30 28 8 LS ST M h := s_icge mt_30 dX1_hasHolds_5 rfl
theorem e30_8 : Rn X d 30 8 (some (.ref a) :: t) ST M h = Rn X d 30 9 (some (.ref a) :: t) (.ref a :: ST) M h := r_aload_n mt_30 dX1_hasHolds_8 rfl
theorem e30_9 : Rn X d 30 9 LS (.ref a :: ST) M h = q_g X (M a) 1 5 d 30 12 LS ST M h := s_get mt_30 dX1_hasHolds_9 f_1_9
theorem e30_12 : Rn X d 30 12 (l0 :: l1 :: some (.int x) :: t) ST M h = Rn X d 30 13 (l0 :: l1 :: some (.int x) :: t) (.int x :: ST) M h := r_iload_n mt_30 dX1_hasHolds_12 rfl
theorem e30_13 : Rn X d 30 13 LS (.int x :: .ref a :: ST) M h = q_ld X (M a) a x d 30 14 LS ST M h := s_iald mt_30 dX1_hasHolds_13
theorem e30_14 : Rn X d 30 14 (l0 :: some (.ref a) :: t) ST M h = Rn X d 30 15 (l0 :: some (.ref a) :: t) (.ref a :: ST) M h := r_aload_n mt_30 dX1_hasHolds_14 rfl
theorem e30_15 : Rn X d 30 15 (l0 :: l1 :: some (.int x) :: t) ST M h = Rn X d 30 16 (l0 :: l1 :: some (.int x) :: t) (.int x :: ST) M h := r_iload_n mt_30 dX1_hasHolds_15 rfl
theorem e30_16 : Rn X d 30 16 LS (.int x :: .ref a :: ST) M h = q_ld X (M a) a x d 30 17 LS ST M h := s_iald mt_30 dX1_hasHolds_16
theorem e30_17 : Rn X d 30 17 LS (.int y :: .int x :: ST) M h = q_eq X x y d 30 22 20 LS ST M h := s_iceq mt_30 dX1_hasHolds_17 rfl
theorem e30_20 : Rn X d 30 20 LS ST M h = Rn X d 30 21 LS (.int (zN 0) :: ST) M h := r_iconst mt_30 dX1_hasHolds_20 c_ic0
theorem e30_21 {v : Nat} (h0 : v < 2) : Rn X d 30 21 LS ([.int (zN v)]) M h = some (.inl (some (.int (zN v))), M, h) := s_zret mt_30 dX1_hasHolds_21 rfl h0
theorem e30_22 (ho : j_one l1 = true) : Rn X d 30 22 (l0 :: l1 :: some (.int x) :: t) ST M h = Rn X d 30 25 (l0 :: l1 :: some (.int (x + (zN 1))) :: t) ST M h := r_iinc mt_30 dX1_hasHolds_22 rfl (by simp only [List.length_cons]; omega) ho c_ic1 rfl
theorem e30_25 : Rn X d 30 25 LS ST M h = Rn X d 30 2 LS ST M h := r_goto mt_30 dX1_hasHolds_25 rfl
theorem e30_28 : Rn X d 30 28 LS ST M h = Rn X d 30 29 LS (.int (zN 1) :: ST) M h := r_iconst mt_30 dX1_hasHolds_28 c_ic1
theorem e30_29 {v : Nat} (h0 : v < 2) : Rn X d 30 29 LS ([.int (zN v)]) M h = some (.inl (some (.int (zN v))), M, h) := s_zret mt_30 dX1_hasHolds_29 rfl h0
end
