/-! what stands at each place of the code, printed -/
theorem dX0_init_0 : decode cX0_init 0 = .ok (.aload_n 0, 1) := by decide +kernel
theorem dX0_init_1 : decode cX0_init 1 = .ok (.invokespecial 3, 3) := by decide +kernel
theorem dX0_init_4 : decode cX0_init 4 = .ok (.aload_n 0, 1) := by decide +kernel
theorem dX0_init_5 : decode cX0_init 5 = .ok (.bipush 32, 2) := by decide +kernel
theorem dX0_init_7 : decode cX0_init 7 = .ok (.newarray .int, 2) := by decide +kernel
theorem dX0_init_9 : decode cX0_init 9 = .ok (.putfield 9, 3) := by decide +kernel
theorem dX0_init_12 : decode cX0_init 12 = .ok (.aload_n 0, 1) := by decide +kernel
theorem dX0_init_13 : decode cX0_init 13 = .ok (.bipush 32, 2) := by decide +kernel
theorem dX0_init_15 : decode cX0_init 15 = .ok (.newarray .int, 2) := by decide +kernel
theorem dX0_init_17 : decode cX0_init 17 = .ok (.putfield 15, 3) := by decide +kernel
theorem dX0_init_20 : decode cX0_init 20 = .ok (.aload_n 0, 1) := by decide +kernel
theorem dX0_init_21 : decode cX0_init 21 = .ok (.bipush 32, 2) := by decide +kernel
theorem dX0_init_23 : decode cX0_init 23 = .ok (.newarray .int, 2) := by decide +kernel
theorem dX0_init_25 : decode cX0_init 25 = .ok (.putfield 18, 3) := by decide +kernel
theorem dX0_init_28 : decode cX0_init 28 = .ok (.aload_n 0, 1) := by decide +kernel
theorem dX0_init_29 : decode cX0_init 29 = .ok (.bipush 32, 2) := by decide +kernel
theorem dX0_init_31 : decode cX0_init 31 = .ok (.newarray .int, 2) := by decide +kernel
theorem dX0_init_33 : decode cX0_init 33 = .ok (.putfield 21, 3) := by decide +kernel
theorem dX0_init_36 : decode cX0_init 36 = .ok (.aload_n 0, 1) := by decide +kernel
theorem dX0_init_37 : decode cX0_init 37 = .ok (.bipush 32, 2) := by decide +kernel
theorem dX0_init_39 : decode cX0_init 39 = .ok (.newarray .int, 2) := by decide +kernel
theorem dX0_init_41 : decode cX0_init 41 = .ok (.putfield 24, 3) := by decide +kernel
theorem dX0_init_44 : decode cX0_init 44 = .ok (.return_, 1) := by decide +kernel
theorem dX0_slot_0 : decode cX0_slot 0 = .ok (.iload_n 0, 1) := by decide +kernel
theorem dX0_slot_1 : decode cX0_slot 1 = .ok (.bipush 31, 2) := by decide +kernel
theorem dX0_slot_3 : decode cX0_slot 3 = .ok (.iand, 1) := by decide +kernel
theorem dX0_slot_4 : decode cX0_slot 4 = .ok (.ireturn, 1) := by decide +kernel
theorem dX0_restart_0 : decode cX0_restart 0 = .ok (.aload_n 0, 1) := by decide +kernel
theorem dX0_restart_1 : decode cX0_restart 1 = .ok (.iload_n 1, 1) := by decide +kernel
theorem dX0_restart_2 : decode cX0_restart 2 = .ok (.putfield 27, 3) := by decide +kernel
theorem dX0_restart_5 : decode cX0_restart 5 = .ok (.aload_n 0, 1) := by decide +kernel
theorem dX0_restart_6 : decode cX0_restart 6 = .ok (.iconst 0, 1) := by decide +kernel
theorem dX0_restart_7 : decode cX0_restart 7 = .ok (.putfield 31, 3) := by decide +kernel
theorem dX0_restart_10 : decode cX0_restart 10 = .ok (.aload_n 0, 1) := by decide +kernel
theorem dX0_restart_11 : decode cX0_restart 11 = .ok (.iconst 0, 1) := by decide +kernel
theorem dX0_restart_12 : decode cX0_restart 12 = .ok (.putfield 34, 3) := by decide +kernel
theorem dX0_restart_15 : decode cX0_restart 15 = .ok (.return_, 1) := by decide +kernel
theorem dX0_copyFrom_0 : decode cX0_copyFrom 0 = .ok (.aload_n 0, 1) := by decide +kernel
theorem dX0_copyFrom_1 : decode cX0_copyFrom 1 = .ok (.aload_n 1, 1) := by decide +kernel
theorem dX0_copyFrom_2 : decode cX0_copyFrom 2 = .ok (.getfield 27, 3) := by decide +kernel
theorem dX0_copyFrom_5 : decode cX0_copyFrom 5 = .ok (.putfield 27, 3) := by decide +kernel
theorem dX0_copyFrom_8 : decode cX0_copyFrom 8 = .ok (.aload_n 0, 1) := by decide +kernel
theorem dX0_copyFrom_9 : decode cX0_copyFrom 9 = .ok (.aload_n 1, 1) := by decide +kernel
theorem dX0_copyFrom_10 : decode cX0_copyFrom 10 = .ok (.getfield 31, 3) := by decide +kernel
theorem dX0_copyFrom_13 : decode cX0_copyFrom 13 = .ok (.putfield 31, 3) := by decide +kernel
theorem dX0_copyFrom_16 : decode cX0_copyFrom 16 = .ok (.aload_n 0, 1) := by decide +kernel
theorem dX0_copyFrom_17 : decode cX0_copyFrom 17 = .ok (.aload_n 1, 1) := by decide +kernel
theorem dX0_copyFrom_18 : decode cX0_copyFrom 18 = .ok (.getfield 34, 3) := by decide +kernel
theorem dX0_copyFrom_21 : decode cX0_copyFrom 21 = .ok (.putfield 34, 3) := by decide +kernel
theorem dX0_copyFrom_24 : decode cX0_copyFrom 24 = .ok (.aload_n 1, 1) := by decide +kernel
theorem dX0_copyFrom_25 : decode cX0_copyFrom 25 = .ok (.getfield 9, 3) := by decide +kernel
theorem dX0_copyFrom_28 : decode cX0_copyFrom 28 = .ok (.iconst 0, 1) := by decide +kernel
theorem dX0_copyFrom_29 : decode cX0_copyFrom 29 = .ok (.aload_n 0, 1) := by decide +kernel
theorem dX0_copyFrom_30 : decode cX0_copyFrom 30 = .ok (.getfield 9, 3) := by decide +kernel
theorem dX0_copyFrom_33 : decode cX0_copyFrom 33 = .ok (.iconst 0, 1) := by decide +kernel
theorem dX0_copyFrom_34 : decode cX0_copyFrom 34 = .ok (.bipush 32, 2) := by decide +kernel
theorem dX0_copyFrom_36 : decode cX0_copyFrom 36 = .ok (.invokestatic 37, 3) := by decide +kernel
theorem dX0_copyFrom_39 : decode cX0_copyFrom 39 = .ok (.aload_n 1, 1) := by decide +kernel
theorem dX0_copyFrom_40 : decode cX0_copyFrom 40 = .ok (.getfield 15, 3) := by decide +kernel
theorem dX0_copyFrom_43 : decode cX0_copyFrom 43 = .ok (.iconst 0, 1) := by decide +kernel
theorem dX0_copyFrom_44 : decode cX0_copyFrom 44 = .ok (.aload_n 0, 1) := by decide +kernel
theorem dX0_copyFrom_45 : decode cX0_copyFrom 45 = .ok (.getfield 15, 3) := by decide +kernel
theorem dX0_copyFrom_48 : decode cX0_copyFrom 48 = .ok (.iconst 0, 1) := by decide +kernel
theorem dX0_copyFrom_49 : decode cX0_copyFrom 49 = .ok (.bipush 32, 2) := by decide +kernel
theorem dX0_copyFrom_51 : decode cX0_copyFrom 51 = .ok (.invokestatic 37, 3) := by decide +kernel
theorem dX0_copyFrom_54 : decode cX0_copyFrom 54 = .ok (.aload_n 1, 1) := by decide +kernel
theorem dX0_copyFrom_55 : decode cX0_copyFrom 55 = .ok (.getfield 18, 3) := by decide +kernel
theorem dX0_copyFrom_58 : decode cX0_copyFrom 58 = .ok (.iconst 0, 1) := by decide +kernel
theorem dX0_copyFrom_59 : decode cX0_copyFrom 59 = .ok (.aload_n 0, 1) := by decide +kernel
theorem dX0_copyFrom_60 : decode cX0_copyFrom 60 = .ok (.getfield 18, 3) := by decide +kernel
theorem dX0_copyFrom_63 : decode cX0_copyFrom 63 = .ok (.iconst 0, 1) := by decide +kernel
theorem dX0_copyFrom_64 : decode cX0_copyFrom 64 = .ok (.bipush 32, 2) := by decide +kernel
theorem dX0_copyFrom_66 : decode cX0_copyFrom 66 = .ok (.invokestatic 37, 3) := by decide +kernel
theorem dX0_copyFrom_69 : decode cX0_copyFrom 69 = .ok (.aload_n 1, 1) := by decide +kernel
theorem dX0_copyFrom_70 : decode cX0_copyFrom 70 = .ok (.getfield 21, 3) := by decide +kernel
theorem dX0_copyFrom_73 : decode cX0_copyFrom 73 = .ok (.iconst 0, 1) := by decide +kernel
theorem dX0_copyFrom_74 : decode cX0_copyFrom 74 = .ok (.aload_n 0, 1) := by decide +kernel
theorem dX0_copyFrom_75 : decode cX0_copyFrom 75 = .ok (.getfield 21, 3) := by decide +kernel
theorem dX0_copyFrom_78 : decode cX0_copyFrom 78 = .ok (.iconst 0, 1) := by decide +kernel
theorem dX0_copyFrom_79 : decode cX0_copyFrom 79 = .ok (.bipush 32, 2) := by decide +kernel
theorem dX0_copyFrom_81 : decode cX0_copyFrom 81 = .ok (.invokestatic 37, 3) := by decide +kernel
theorem dX0_copyFrom_84 : decode cX0_copyFrom 84 = .ok (.aload_n 1, 1) := by decide +kernel
theorem dX0_copyFrom_85 : decode cX0_copyFrom 85 = .ok (.getfield 24, 3) := by decide +kernel
theorem dX0_copyFrom_88 : decode cX0_copyFrom 88 = .ok (.iconst 0, 1) := by decide +kernel
theorem dX0_copyFrom_89 : decode cX0_copyFrom 89 = .ok (.aload_n 0, 1) := by decide +kernel
theorem dX0_copyFrom_90 : decode cX0_copyFrom 90 = .ok (.getfield 24, 3) := by decide +kernel
theorem dX0_copyFrom_93 : decode cX0_copyFrom 93 = .ok (.iconst 0, 1) := by decide +kernel
theorem dX0_copyFrom_94 : decode cX0_copyFrom 94 = .ok (.bipush 32, 2) := by decide +kernel
theorem dX0_copyFrom_96 : decode cX0_copyFrom 96 = .ok (.invokestatic 37, 3) := by decide +kernel
theorem dX0_copyFrom_99 : decode cX0_copyFrom 99 = .ok (.return_, 1) := by decide +kernel
theorem dX0_kept_0 : decode cX0_kept 0 = .ok (.aload_n 0, 1) := by decide +kernel
theorem dX0_kept_1 : decode cX0_kept 1 = .ok (.getfield 34, 3) := by decide +kernel
theorem dX0_kept_4 : decode cX0_kept 4 = .ok (.aload_n 0, 1) := by decide +kernel
theorem dX0_kept_5 : decode cX0_kept 5 = .ok (.getfield 31, 3) := by decide +kernel
theorem dX0_kept_8 : decode cX0_kept 8 = .ok (.isub, 1) := by decide +kernel
theorem dX0_kept_9 : decode cX0_kept 9 = .ok (.ireturn, 1) := by decide +kernel
theorem dX0_isFull_0 : decode cX0_isFull 0 = .ok (.aload_n 0, 1) := by decide +kernel
theorem dX0_isFull_1 : decode cX0_isFull 1 = .ok (.invokevirtual 43, 3) := by decide +kernel
theorem dX0_isFull_4 : decode cX0_isFull 4 = .ok (.aload_n 0, 1) := by decide +kernel
theorem dX0_isFull_5 : decode cX0_isFull 5 = .ok (.getfield 27, 3) := by decide +kernel
theorem dX0_isFull_8 : decode cX0_isFull 8 = .ok (.if_icmp .lt 7, 3) := by decide +kernel
theorem dX0_isFull_11 : decode cX0_isFull 11 = .ok (.iconst 1, 1) := by decide +kernel
theorem dX0_isFull_12 : decode cX0_isFull 12 = .ok (.goto 4, 3) := by decide +kernel
theorem dX0_isFull_15 : decode cX0_isFull 15 = .ok (.iconst 0, 1) := by decide +kernel
theorem dX0_isFull_16 : decode cX0_isFull 16 = .ok (.ireturn, 1) := by decide +kernel
theorem dX0_isKept_0 : decode cX0_isKept 0 = .ok (.iload_n 1, 1) := by decide +kernel
theorem dX0_isKept_1 : decode cX0_isKept 1 = .ok (.aload_n 0, 1) := by decide +kernel
theorem dX0_isKept_2 : decode cX0_isKept 2 = .ok (.getfield 31, 3) := by decide +kernel
theorem dX0_isKept_5 : decode cX0_isKept 5 = .ok (.if_icmp .lt 15, 3) := by decide +kernel
theorem dX0_isKept_8 : decode cX0_isKept 8 = .ok (.iload_n 1, 1) := by decide +kernel
theorem dX0_isKept_9 : decode cX0_isKept 9 = .ok (.aload_n 0, 1) := by decide +kernel
theorem dX0_isKept_10 : decode cX0_isKept 10 = .ok (.getfield 34, 3) := by decide +kernel
theorem dX0_isKept_13 : decode cX0_isKept 13 = .ok (.if_icmp .ge 7, 3) := by decide +kernel
theorem dX0_isKept_16 : decode cX0_isKept 16 = .ok (.iconst 1, 1) := by decide +kernel
theorem dX0_isKept_17 : decode cX0_isKept 17 = .ok (.goto 4, 3) := by decide +kernel
theorem dX0_isKept_20 : decode cX0_isKept 20 = .ok (.iconst 0, 1) := by decide +kernel
theorem dX0_isKept_21 : decode cX0_isKept 21 = .ok (.ireturn, 1) := by decide +kernel
theorem dX0_add_0 : decode cX0_add 0 = .ok (.aload_n 0, 1) := by decide +kernel
theorem dX0_add_1 : decode cX0_add 1 = .ok (.getfield 34, 3) := by decide +kernel
theorem dX0_add_4 : decode cX0_add 4 = .ok (.istore 5, 2) := by decide +kernel
theorem dX0_add_6 : decode cX0_add 6 = .ok (.iload 5, 2) := by decide +kernel
theorem dX0_add_8 : decode cX0_add 8 = .ok (.invokestatic 47, 3) := by decide +kernel
theorem dX0_add_11 : decode cX0_add 11 = .ok (.istore 6, 2) := by decide +kernel
theorem dX0_add_13 : decode cX0_add 13 = .ok (.aload_n 0, 1) := by decide +kernel
theorem dX0_add_14 : decode cX0_add 14 = .ok (.getfield 9, 3) := by decide +kernel
theorem dX0_add_17 : decode cX0_add 17 = .ok (.iload 6, 2) := by decide +kernel
theorem dX0_add_19 : decode cX0_add 19 = .ok (.iload_n 1, 1) := by decide +kernel
theorem dX0_add_20 : decode cX0_add 20 = .ok (.iastore, 1) := by decide +kernel
theorem dX0_add_21 : decode cX0_add 21 = .ok (.aload_n 0, 1) := by decide +kernel
theorem dX0_add_22 : decode cX0_add 22 = .ok (.getfield 15, 3) := by decide +kernel
theorem dX0_add_25 : decode cX0_add 25 = .ok (.iload 6, 2) := by decide +kernel
theorem dX0_add_27 : decode cX0_add 27 = .ok (.iload_n 2, 1) := by decide +kernel
theorem dX0_add_28 : decode cX0_add 28 = .ok (.iastore, 1) := by decide +kernel
theorem dX0_add_29 : decode cX0_add 29 = .ok (.aload_n 0, 1) := by decide +kernel
theorem dX0_add_30 : decode cX0_add 30 = .ok (.getfield 18, 3) := by decide +kernel
theorem dX0_add_33 : decode cX0_add 33 = .ok (.iload 6, 2) := by decide +kernel
theorem dX0_add_35 : decode cX0_add 35 = .ok (.iload_n 1, 1) := by decide +kernel
theorem dX0_add_36 : decode cX0_add 36 = .ok (.invokestatic 51, 3) := by decide +kernel
theorem dX0_add_39 : decode cX0_add 39 = .ok (.ifCond .eq 7, 3) := by decide +kernel
theorem dX0_add_42 : decode cX0_add 42 = .ok (.iload_n 3, 1) := by decide +kernel
theorem dX0_add_43 : decode cX0_add 43 = .ok (.goto 4, 3) := by decide +kernel
theorem dX0_add_46 : decode cX0_add 46 = .ok (.iconst 0, 1) := by decide +kernel
theorem dX0_add_47 : decode cX0_add 47 = .ok (.iastore, 1) := by decide +kernel
theorem dX0_add_48 : decode cX0_add 48 = .ok (.aload_n 0, 1) := by decide +kernel
theorem dX0_add_49 : decode cX0_add 49 = .ok (.getfield 21, 3) := by decide +kernel
theorem dX0_add_52 : decode cX0_add 52 = .ok (.iload 6, 2) := by decide +kernel
theorem dX0_add_54 : decode cX0_add 54 = .ok (.iload 4, 2) := by decide +kernel
theorem dX0_add_56 : decode cX0_add 56 = .ok (.iastore, 1) := by decide +kernel
theorem dX0_add_57 : decode cX0_add 57 = .ok (.aload_n 0, 1) := by decide +kernel
theorem dX0_add_58 : decode cX0_add 58 = .ok (.getfield 24, 3) := by decide +kernel
theorem dX0_add_61 : decode cX0_add 61 = .ok (.iload 6, 2) := by decide +kernel
theorem dX0_add_63 : decode cX0_add 63 = .ok (.iconst 0, 1) := by decide +kernel
theorem dX0_add_64 : decode cX0_add 64 = .ok (.iastore, 1) := by decide +kernel
theorem dX0_add_65 : decode cX0_add 65 = .ok (.aload_n 0, 1) := by decide +kernel
theorem dX0_add_66 : decode cX0_add 66 = .ok (.dup, 1) := by decide +kernel
theorem dX0_add_67 : decode cX0_add 67 = .ok (.getfield 34, 3) := by decide +kernel
theorem dX0_add_70 : decode cX0_add 70 = .ok (.iconst 1, 1) := by decide +kernel
theorem dX0_add_71 : decode cX0_add 71 = .ok (.iadd, 1) := by decide +kernel
theorem dX0_add_72 : decode cX0_add 72 = .ok (.putfield 34, 3) := by decide +kernel
theorem dX0_add_75 : decode cX0_add 75 = .ok (.iload 5, 2) := by decide +kernel
theorem dX0_add_77 : decode cX0_add 77 = .ok (.ireturn, 1) := by decide +kernel
theorem dX0_kindAt_0 : decode cX0_kindAt 0 = .ok (.aload_n 0, 1) := by decide +kernel
theorem dX0_kindAt_1 : decode cX0_kindAt 1 = .ok (.getfield 9, 3) := by decide +kernel
theorem dX0_kindAt_4 : decode cX0_kindAt 4 = .ok (.iload_n 1, 1) := by decide +kernel
theorem dX0_kindAt_5 : decode cX0_kindAt 5 = .ok (.invokestatic 47, 3) := by decide +kernel
theorem dX0_kindAt_8 : decode cX0_kindAt 8 = .ok (.iaload, 1) := by decide +kernel
theorem dX0_kindAt_9 : decode cX0_kindAt 9 = .ok (.ireturn, 1) := by decide +kernel
theorem dX0_holdAAt_0 : decode cX0_holdAAt 0 = .ok (.aload_n 0, 1) := by decide +kernel
theorem dX0_holdAAt_1 : decode cX0_holdAAt 1 = .ok (.getfield 15, 3) := by decide +kernel
theorem dX0_holdAAt_4 : decode cX0_holdAAt 4 = .ok (.iload_n 1, 1) := by decide +kernel
theorem dX0_holdAAt_5 : decode cX0_holdAAt 5 = .ok (.invokestatic 47, 3) := by decide +kernel
theorem dX0_holdAAt_8 : decode cX0_holdAAt 8 = .ok (.iaload, 1) := by decide +kernel
theorem dX0_holdAAt_9 : decode cX0_holdAAt 9 = .ok (.ireturn, 1) := by decide +kernel
theorem dX0_holdBAt_0 : decode cX0_holdBAt 0 = .ok (.aload_n 0, 1) := by decide +kernel
theorem dX0_holdBAt_1 : decode cX0_holdBAt 1 = .ok (.getfield 18, 3) := by decide +kernel
theorem dX0_holdBAt_4 : decode cX0_holdBAt 4 = .ok (.iload_n 1, 1) := by decide +kernel
theorem dX0_holdBAt_5 : decode cX0_holdBAt 5 = .ok (.invokestatic 47, 3) := by decide +kernel
theorem dX0_holdBAt_8 : decode cX0_holdBAt 8 = .ok (.iaload, 1) := by decide +kernel
theorem dX0_holdBAt_9 : decode cX0_holdBAt 9 = .ok (.ireturn, 1) := by decide +kernel
theorem dX0_amountAt_0 : decode cX0_amountAt 0 = .ok (.aload_n 0, 1) := by decide +kernel
theorem dX0_amountAt_1 : decode cX0_amountAt 1 = .ok (.getfield 21, 3) := by decide +kernel
theorem dX0_amountAt_4 : decode cX0_amountAt 4 = .ok (.iload_n 1, 1) := by decide +kernel
theorem dX0_amountAt_5 : decode cX0_amountAt 5 = .ok (.invokestatic 47, 3) := by decide +kernel
theorem dX0_amountAt_8 : decode cX0_amountAt 8 = .ok (.iaload, 1) := by decide +kernel
theorem dX0_amountAt_9 : decode cX0_amountAt 9 = .ok (.ireturn, 1) := by decide +kernel
theorem dX0_spoiledAt_0 : decode cX0_spoiledAt 0 = .ok (.aload_n 0, 1) := by decide +kernel
theorem dX0_spoiledAt_1 : decode cX0_spoiledAt 1 = .ok (.getfield 24, 3) := by decide +kernel
theorem dX0_spoiledAt_4 : decode cX0_spoiledAt 4 = .ok (.iload_n 1, 1) := by decide +kernel
theorem dX0_spoiledAt_5 : decode cX0_spoiledAt 5 = .ok (.invokestatic 47, 3) := by decide +kernel
theorem dX0_spoiledAt_8 : decode cX0_spoiledAt 8 = .ok (.iaload, 1) := by decide +kernel
theorem dX0_spoiledAt_9 : decode cX0_spoiledAt 9 = .ok (.ireturn, 1) := by decide +kernel
theorem dX0_canBeRead_0 : decode cX0_canBeRead 0 = .ok (.aload_n 0, 1) := by decide +kernel
theorem dX0_canBeRead_1 : decode cX0_canBeRead 1 = .ok (.iload_n 1, 1) := by decide +kernel
theorem dX0_canBeRead_2 : decode cX0_canBeRead 2 = .ok (.invokevirtual 55, 3) := by decide +kernel
theorem dX0_canBeRead_5 : decode cX0_canBeRead 5 = .ok (.iconst 3, 1) := by decide +kernel
theorem dX0_canBeRead_6 : decode cX0_canBeRead 6 = .ok (.if_icmp .eq 7, 3) := by decide +kernel
theorem dX0_canBeRead_9 : decode cX0_canBeRead 9 = .ok (.iconst 1, 1) := by decide +kernel
theorem dX0_canBeRead_10 : decode cX0_canBeRead 10 = .ok (.goto 4, 3) := by decide +kernel
theorem dX0_canBeRead_13 : decode cX0_canBeRead 13 = .ok (.iconst 0, 1) := by decide +kernel
theorem dX0_canBeRead_14 : decode cX0_canBeRead 14 = .ok (.ireturn, 1) := by decide +kernel
theorem dX0_spoilCopy_0 : decode cX0_spoilCopy 0 = .ok (.iload_n 1, 1) := by decide +kernel
theorem dX0_spoilCopy_1 : decode cX0_spoilCopy 1 = .ok (.invokestatic 47, 3) := by decide +kernel
theorem dX0_spoilCopy_4 : decode cX0_spoilCopy 4 = .ok (.istore_n 3, 1) := by decide +kernel
theorem dX0_spoilCopy_5 : decode cX0_spoilCopy 5 = .ok (.aload_n 0, 1) := by decide +kernel
theorem dX0_spoilCopy_6 : decode cX0_spoilCopy 6 = .ok (.getfield 24, 3) := by decide +kernel
theorem dX0_spoilCopy_9 : decode cX0_spoilCopy 9 = .ok (.iload_n 3, 1) := by decide +kernel
theorem dX0_spoilCopy_10 : decode cX0_spoilCopy 10 = .ok (.dup2, 1) := by decide +kernel
theorem dX0_spoilCopy_11 : decode cX0_spoilCopy 11 = .ok (.iaload, 1) := by decide +kernel
theorem dX0_spoilCopy_12 : decode cX0_spoilCopy 12 = .ok (.iconst 1, 1) := by decide +kernel
theorem dX0_spoilCopy_13 : decode cX0_spoilCopy 13 = .ok (.iload_n 2, 1) := by decide +kernel
theorem dX0_spoilCopy_14 : decode cX0_spoilCopy 14 = .ok (.ishl, 1) := by decide +kernel
theorem dX0_spoilCopy_15 : decode cX0_spoilCopy 15 = .ok (.ior, 1) := by decide +kernel
theorem dX0_spoilCopy_16 : decode cX0_spoilCopy 16 = .ok (.iastore, 1) := by decide +kernel
theorem dX0_spoilCopy_17 : decode cX0_spoilCopy 17 = .ok (.aload_n 0, 1) := by decide +kernel
theorem dX0_spoilCopy_18 : decode cX0_spoilCopy 18 = .ok (.getfield 24, 3) := by decide +kernel
theorem dX0_spoilCopy_21 : decode cX0_spoilCopy 21 = .ok (.iload_n 3, 1) := by decide +kernel
theorem dX0_spoilCopy_22 : decode cX0_spoilCopy 22 = .ok (.iaload, 1) := by decide +kernel
theorem dX0_spoilCopy_23 : decode cX0_spoilCopy 23 = .ok (.invokestatic 58, 3) := by decide +kernel
theorem dX0_spoilCopy_26 : decode cX0_spoilCopy 26 = .ok (.ireturn, 1) := by decide +kernel
theorem dX0_repairOrder_0 : decode cX0_repairOrder 0 = .ok (.iload_n 1, 1) := by decide +kernel
theorem dX0_repairOrder_1 : decode cX0_repairOrder 1 = .ok (.invokestatic 47, 3) := by decide +kernel
theorem dX0_repairOrder_4 : decode cX0_repairOrder 4 = .ok (.istore_n 2, 1) := by decide +kernel
theorem dX0_repairOrder_5 : decode cX0_repairOrder 5 = .ok (.aload_n 0, 1) := by decide +kernel
theorem dX0_repairOrder_6 : decode cX0_repairOrder 6 = .ok (.getfield 24, 3) := by decide +kernel
theorem dX0_repairOrder_9 : decode cX0_repairOrder 9 = .ok (.iload_n 2, 1) := by decide +kernel
theorem dX0_repairOrder_10 : decode cX0_repairOrder 10 = .ok (.iaload, 1) := by decide +kernel
theorem dX0_repairOrder_11 : decode cX0_repairOrder 11 = .ok (.invokestatic 58, 3) := by decide +kernel
theorem dX0_repairOrder_14 : decode cX0_repairOrder 14 = .ok (.istore_n 3, 1) := by decide +kernel
theorem dX0_repairOrder_15 : decode cX0_repairOrder 15 = .ok (.aload_n 0, 1) := by decide +kernel
theorem dX0_repairOrder_16 : decode cX0_repairOrder 16 = .ok (.getfield 24, 3) := by decide +kernel
theorem dX0_repairOrder_19 : decode cX0_repairOrder 19 = .ok (.iload_n 2, 1) := by decide +kernel
theorem dX0_repairOrder_20 : decode cX0_repairOrder 20 = .ok (.iconst 0, 1) := by decide +kernel
theorem dX0_repairOrder_21 : decode cX0_repairOrder 21 = .ok (.iastore, 1) := by decide +kernel
theorem dX0_repairOrder_22 : decode cX0_repairOrder 22 = .ok (.iload_n 3, 1) := by decide +kernel
theorem dX0_repairOrder_23 : decode cX0_repairOrder 23 = .ok (.ireturn, 1) := by decide +kernel
theorem dX0_spoiledCopies_0 : decode cX0_spoiledCopies 0 = .ok (.iconst 0, 1) := by decide +kernel
theorem dX0_spoiledCopies_1 : decode cX0_spoiledCopies 1 = .ok (.istore_n 1, 1) := by decide +kernel
theorem dX0_spoiledCopies_2 : decode cX0_spoiledCopies 2 = .ok (.aload_n 0, 1) := by decide +kernel
theorem dX0_spoiledCopies_3 : decode cX0_spoiledCopies 3 = .ok (.getfield 31, 3) := by decide +kernel
theorem dX0_spoiledCopies_6 : decode cX0_spoiledCopies 6 = .ok (.istore_n 2, 1) := by decide +kernel
theorem dX0_spoiledCopies_7 : decode cX0_spoiledCopies 7 = .ok (.iload_n 2, 1) := by decide +kernel
theorem dX0_spoiledCopies_8 : decode cX0_spoiledCopies 8 = .ok (.aload_n 0, 1) := by decide +kernel
theorem dX0_spoiledCopies_9 : decode cX0_spoiledCopies 9 = .ok (.getfield 34, 3) := by decide +kernel
theorem dX0_spoiledCopies_12 : decode cX0_spoiledCopies 12 = .ok (.if_icmp .ge 20, 3) := by decide +kernel
theorem dX0_spoiledCopies_15 : decode cX0_spoiledCopies 15 = .ok (.iload_n 1, 1) := by decide +kernel
theorem dX0_spoiledCopies_16 : decode cX0_spoiledCopies 16 = .ok (.aload_n 0, 1) := by decide +kernel
theorem dX0_spoiledCopies_17 : decode cX0_spoiledCopies 17 = .ok (.iload_n 2, 1) := by decide +kernel
theorem dX0_spoiledCopies_18 : decode cX0_spoiledCopies 18 = .ok (.invokevirtual 55, 3) := by decide +kernel
theorem dX0_spoiledCopies_21 : decode cX0_spoiledCopies 21 = .ok (.invokestatic 58, 3) := by decide +kernel
theorem dX0_spoiledCopies_24 : decode cX0_spoiledCopies 24 = .ok (.iadd, 1) := by decide +kernel
theorem dX0_spoiledCopies_25 : decode cX0_spoiledCopies 25 = .ok (.istore_n 1, 1) := by decide +kernel
theorem dX0_spoiledCopies_26 : decode cX0_spoiledCopies 26 = .ok (.iinc 2 1, 3) := by decide +kernel
theorem dX0_spoiledCopies_29 : decode cX0_spoiledCopies 29 = .ok (.goto (-22), 3) := by decide +kernel
theorem dX0_spoiledCopies_32 : decode cX0_spoiledCopies 32 = .ok (.iload_n 1, 1) := by decide +kernel
theorem dX0_spoiledCopies_33 : decode cX0_spoiledCopies 33 = .ok (.ireturn, 1) := by decide +kernel
theorem dX0_unreadableOrders_0 : decode cX0_unreadableOrders 0 = .ok (.iconst 0, 1) := by decide +kernel
theorem dX0_unreadableOrders_1 : decode cX0_unreadableOrders 1 = .ok (.istore_n 1, 1) := by decide +kernel
theorem dX0_unreadableOrders_2 : decode cX0_unreadableOrders 2 = .ok (.aload_n 0, 1) := by decide +kernel
theorem dX0_unreadableOrders_3 : decode cX0_unreadableOrders 3 = .ok (.getfield 31, 3) := by decide +kernel
theorem dX0_unreadableOrders_6 : decode cX0_unreadableOrders 6 = .ok (.istore_n 2, 1) := by decide +kernel
theorem dX0_unreadableOrders_7 : decode cX0_unreadableOrders 7 = .ok (.iload_n 2, 1) := by decide +kernel
theorem dX0_unreadableOrders_8 : decode cX0_unreadableOrders 8 = .ok (.aload_n 0, 1) := by decide +kernel
theorem dX0_unreadableOrders_9 : decode cX0_unreadableOrders 9 = .ok (.getfield 34, 3) := by decide +kernel
theorem dX0_unreadableOrders_12 : decode cX0_unreadableOrders 12 = .ok (.if_icmp .ge 25, 3) := by decide +kernel
theorem dX0_unreadableOrders_15 : decode cX0_unreadableOrders 15 = .ok (.iload_n 1, 1) := by decide +kernel
theorem dX0_unreadableOrders_16 : decode cX0_unreadableOrders 16 = .ok (.aload_n 0, 1) := by decide +kernel
theorem dX0_unreadableOrders_17 : decode cX0_unreadableOrders 17 = .ok (.iload_n 2, 1) := by decide +kernel
theorem dX0_unreadableOrders_18 : decode cX0_unreadableOrders 18 = .ok (.invokevirtual 63, 3) := by decide +kernel
theorem dX0_unreadableOrders_21 : decode cX0_unreadableOrders 21 = .ok (.ifCond .eq 7, 3) := by decide +kernel
theorem dX0_unreadableOrders_24 : decode cX0_unreadableOrders 24 = .ok (.iconst 0, 1) := by decide +kernel
theorem dX0_unreadableOrders_25 : decode cX0_unreadableOrders 25 = .ok (.goto 4, 3) := by decide +kernel
theorem dX0_unreadableOrders_28 : decode cX0_unreadableOrders 28 = .ok (.iconst 1, 1) := by decide +kernel
theorem dX0_unreadableOrders_29 : decode cX0_unreadableOrders 29 = .ok (.iadd, 1) := by decide +kernel
theorem dX0_unreadableOrders_30 : decode cX0_unreadableOrders 30 = .ok (.istore_n 1, 1) := by decide +kernel
theorem dX0_unreadableOrders_31 : decode cX0_unreadableOrders 31 = .ok (.iinc 2 1, 3) := by decide +kernel
theorem dX0_unreadableOrders_34 : decode cX0_unreadableOrders 34 = .ok (.goto (-27), 3) := by decide +kernel
theorem dX0_unreadableOrders_37 : decode cX0_unreadableOrders 37 = .ok (.iload_n 1, 1) := by decide +kernel
theorem dX0_unreadableOrders_38 : decode cX0_unreadableOrders 38 = .ok (.ireturn, 1) := by decide +kernel
theorem dX0_firstUnreadable_0 : decode cX0_firstUnreadable 0 = .ok (.iload_n 1, 1) := by decide +kernel
theorem dX0_firstUnreadable_1 : decode cX0_firstUnreadable 1 = .ok (.istore_n 2, 1) := by decide +kernel
theorem dX0_firstUnreadable_2 : decode cX0_firstUnreadable 2 = .ok (.iload_n 2, 1) := by decide +kernel
theorem dX0_firstUnreadable_3 : decode cX0_firstUnreadable 3 = .ok (.aload_n 0, 1) := by decide +kernel
theorem dX0_firstUnreadable_4 : decode cX0_firstUnreadable 4 = .ok (.getfield 34, 3) := by decide +kernel
theorem dX0_firstUnreadable_7 : decode cX0_firstUnreadable 7 = .ok (.if_icmp .ge 19, 3) := by decide +kernel
theorem dX0_firstUnreadable_10 : decode cX0_firstUnreadable 10 = .ok (.aload_n 0, 1) := by decide +kernel
theorem dX0_firstUnreadable_11 : decode cX0_firstUnreadable 11 = .ok (.iload_n 2, 1) := by decide +kernel
theorem dX0_firstUnreadable_12 : decode cX0_firstUnreadable 12 = .ok (.invokevirtual 63, 3) := by decide +kernel
theorem dX0_firstUnreadable_15 : decode cX0_firstUnreadable 15 = .ok (.ifCond .ne 5, 3) := by decide +kernel
theorem dX0_firstUnreadable_18 : decode cX0_firstUnreadable 18 = .ok (.iload_n 2, 1) := by decide +kernel
theorem dX0_firstUnreadable_19 : decode cX0_firstUnreadable 19 = .ok (.ireturn, 1) := by decide +kernel
theorem dX0_firstUnreadable_20 : decode cX0_firstUnreadable 20 = .ok (.iinc 2 1, 3) := by decide +kernel
theorem dX0_firstUnreadable_23 : decode cX0_firstUnreadable 23 = .ok (.goto (-21), 3) := by decide +kernel
theorem dX0_firstUnreadable_26 : decode cX0_firstUnreadable 26 = .ok (.aload_n 0, 1) := by decide +kernel
theorem dX0_firstUnreadable_27 : decode cX0_firstUnreadable 27 = .ok (.getfield 34, 3) := by decide +kernel
theorem dX0_firstUnreadable_30 : decode cX0_firstUnreadable 30 = .ok (.ireturn, 1) := by decide +kernel
theorem dX0_replayOn_0 : decode cX0_replayOn 0 = .ok (.iload_n 2, 1) := by decide +kernel
theorem dX0_replayOn_1 : decode cX0_replayOn 1 = .ok (.istore 4, 2) := by decide +kernel
theorem dX0_replayOn_3 : decode cX0_replayOn 3 = .ok (.iload 4, 2) := by decide +kernel
theorem dX0_replayOn_5 : decode cX0_replayOn 5 = .ok (.iload_n 3, 1) := by decide +kernel
theorem dX0_replayOn_6 : decode cX0_replayOn 6 = .ok (.if_icmp .ge 27, 3) := by decide +kernel
theorem dX0_replayOn_9 : decode cX0_replayOn 9 = .ok (.aload_n 0, 1) := by decide +kernel
theorem dX0_replayOn_10 : decode cX0_replayOn 10 = .ok (.iload 4, 2) := by decide +kernel
theorem dX0_replayOn_12 : decode cX0_replayOn 12 = .ok (.invokevirtual 63, 3) := by decide +kernel
theorem dX0_replayOn_15 : decode cX0_replayOn 15 = .ok (.ifCond .ne 5, 3) := by decide +kernel
theorem dX0_replayOn_18 : decode cX0_replayOn 18 = .ok (.iconst 0, 1) := by decide +kernel
theorem dX0_replayOn_19 : decode cX0_replayOn 19 = .ok (.ireturn, 1) := by decide +kernel
theorem dX0_replayOn_20 : decode cX0_replayOn 20 = .ok (.aload_n 0, 1) := by decide +kernel
theorem dX0_replayOn_21 : decode cX0_replayOn 21 = .ok (.aload_n 1, 1) := by decide +kernel
theorem dX0_replayOn_22 : decode cX0_replayOn 22 = .ok (.iload 4, 2) := by decide +kernel
theorem dX0_replayOn_24 : decode cX0_replayOn 24 = .ok (.invokevirtual 66, 3) := by decide +kernel
theorem dX0_replayOn_27 : decode cX0_replayOn 27 = .ok (.iinc 4 1, 3) := by decide +kernel
theorem dX0_replayOn_30 : decode cX0_replayOn 30 = .ok (.goto (-27), 3) := by decide +kernel
theorem dX0_replayOn_33 : decode cX0_replayOn 33 = .ok (.iconst 1, 1) := by decide +kernel
theorem dX0_replayOn_34 : decode cX0_replayOn 34 = .ok (.ireturn, 1) := by decide +kernel
theorem dX0_replayOne_0 : decode cX0_replayOne 0 = .ok (.iload_n 2, 1) := by decide +kernel
theorem dX0_replayOne_1 : decode cX0_replayOne 1 = .ok (.invokestatic 47, 3) := by decide +kernel
theorem dX0_replayOne_4 : decode cX0_replayOne 4 = .ok (.istore_n 3, 1) := by decide +kernel
theorem dX0_replayOne_5 : decode cX0_replayOne 5 = .ok (.aload_n 0, 1) := by decide +kernel
theorem dX0_replayOne_6 : decode cX0_replayOne 6 = .ok (.getfield 15, 3) := by decide +kernel
theorem dX0_replayOne_9 : decode cX0_replayOne 9 = .ok (.iload_n 3, 1) := by decide +kernel
theorem dX0_replayOne_10 : decode cX0_replayOne 10 = .ok (.iaload, 1) := by decide +kernel
theorem dX0_replayOne_11 : decode cX0_replayOne 11 = .ok (.istore 4, 2) := by decide +kernel
theorem dX0_replayOne_13 : decode cX0_replayOne 13 = .ok (.aload_n 0, 1) := by decide +kernel
theorem dX0_replayOne_14 : decode cX0_replayOne 14 = .ok (.getfield 18, 3) := by decide +kernel
theorem dX0_replayOne_17 : decode cX0_replayOne 17 = .ok (.iload_n 3, 1) := by decide +kernel
theorem dX0_replayOne_18 : decode cX0_replayOne 18 = .ok (.iaload, 1) := by decide +kernel
theorem dX0_replayOne_19 : decode cX0_replayOne 19 = .ok (.istore 5, 2) := by decide +kernel
theorem dX0_replayOne_21 : decode cX0_replayOne 21 = .ok (.aload_n 0, 1) := by decide +kernel
theorem dX0_replayOne_22 : decode cX0_replayOne 22 = .ok (.getfield 21, 3) := by decide +kernel
theorem dX0_replayOne_25 : decode cX0_replayOne 25 = .ok (.iload_n 3, 1) := by decide +kernel
theorem dX0_replayOne_26 : decode cX0_replayOne 26 = .ok (.iaload, 1) := by decide +kernel
theorem dX0_replayOne_27 : decode cX0_replayOne 27 = .ok (.istore 6, 2) := by decide +kernel
theorem dX0_replayOne_29 : decode cX0_replayOne 29 = .ok (.aload_n 0, 1) := by decide +kernel
theorem dX0_replayOne_30 : decode cX0_replayOne 30 = .ok (.getfield 9, 3) := by decide +kernel
theorem dX0_replayOne_33 : decode cX0_replayOne 33 = .ok (.iload_n 3, 1) := by decide +kernel
theorem dX0_replayOne_34 : decode cX0_replayOne 34 = .ok (.iaload, 1) := by decide +kernel
theorem dX0_replayOne_35 : decode cX0_replayOne 35 = .ok (.tableswitch 91 0 3 #[29, 49, 67, 80], 29) := by decide +kernel
theorem dX0_replayOne_64 : decode cX0_replayOne 64 = .ok (.aload_n 1, 1) := by decide +kernel
theorem dX0_replayOne_65 : decode cX0_replayOne 65 = .ok (.iload 4, 2) := by decide +kernel
theorem dX0_replayOne_67 : decode cX0_replayOne 67 = .ok (.aload_n 1, 1) := by decide +kernel
theorem dX0_replayOne_68 : decode cX0_replayOne 68 = .ok (.iload 4, 2) := by decide +kernel
theorem dX0_replayOne_70 : decode cX0_replayOne 70 = .ok (.iaload, 1) := by decide +kernel
theorem dX0_replayOne_71 : decode cX0_replayOne 71 = .ok (.iload 6, 2) := by decide +kernel
theorem dX0_replayOne_73 : decode cX0_replayOne 73 = .ok (.iadd, 1) := by decide +kernel
theorem dX0_replayOne_74 : decode cX0_replayOne 74 = .ok (.sipush 999, 3) := by decide +kernel
theorem dX0_replayOne_77 : decode cX0_replayOne 77 = .ok (.invokestatic 70, 3) := by decide +kernel
theorem dX0_replayOne_80 : decode cX0_replayOne 80 = .ok (.iastore, 1) := by decide +kernel
theorem dX0_replayOne_81 : decode cX0_replayOne 81 = .ok (.goto 53, 3) := by decide +kernel
theorem dX0_replayOne_84 : decode cX0_replayOne 84 = .ok (.aload_n 1, 1) := by decide +kernel
theorem dX0_replayOne_85 : decode cX0_replayOne 85 = .ok (.iload 4, 2) := by decide +kernel
theorem dX0_replayOne_87 : decode cX0_replayOne 87 = .ok (.aload_n 1, 1) := by decide +kernel
theorem dX0_replayOne_88 : decode cX0_replayOne 88 = .ok (.iload 4, 2) := by decide +kernel
theorem dX0_replayOne_90 : decode cX0_replayOne 90 = .ok (.iaload, 1) := by decide +kernel
theorem dX0_replayOne_91 : decode cX0_replayOne 91 = .ok (.iload 6, 2) := by decide +kernel
theorem dX0_replayOne_93 : decode cX0_replayOne 93 = .ok (.isub, 1) := by decide +kernel
theorem dX0_replayOne_94 : decode cX0_replayOne 94 = .ok (.iconst 0, 1) := by decide +kernel
theorem dX0_replayOne_95 : decode cX0_replayOne 95 = .ok (.invokestatic 76, 3) := by decide +kernel
theorem dX0_replayOne_98 : decode cX0_replayOne 98 = .ok (.iastore, 1) := by decide +kernel
theorem dX0_replayOne_99 : decode cX0_replayOne 99 = .ok (.goto 35, 3) := by decide +kernel
theorem dX0_replayOne_102 : decode cX0_replayOne 102 = .ok (.aload_n 1, 1) := by decide +kernel
theorem dX0_replayOne_103 : decode cX0_replayOne 103 = .ok (.iload 4, 2) := by decide +kernel
theorem dX0_replayOne_105 : decode cX0_replayOne 105 = .ok (.iload 5, 2) := by decide +kernel
theorem dX0_replayOne_107 : decode cX0_replayOne 107 = .ok (.iload 6, 2) := by decide +kernel
theorem dX0_replayOne_109 : decode cX0_replayOne 109 = .ok (.invokestatic 79, 3) := by decide +kernel
theorem dX0_replayOne_112 : decode cX0_replayOne 112 = .ok (.goto 22, 3) := by decide +kernel
theorem dX0_replayOne_115 : decode cX0_replayOne 115 = .ok (.aload_n 1, 1) := by decide +kernel
theorem dX0_replayOne_116 : decode cX0_replayOne 116 = .ok (.iload 4, 2) := by decide +kernel
theorem dX0_replayOne_118 : decode cX0_replayOne 118 = .ok (.iload 5, 2) := by decide +kernel
theorem dX0_replayOne_120 : decode cX0_replayOne 120 = .ok (.invokestatic 83, 3) := by decide +kernel
theorem dX0_replayOne_123 : decode cX0_replayOne 123 = .ok (.goto 11, 3) := by decide +kernel
theorem dX0_replayOne_126 : decode cX0_replayOne 126 = .ok (.aload_n 1, 1) := by decide +kernel
theorem dX0_replayOne_127 : decode cX0_replayOne 127 = .ok (.iload 4, 2) := by decide +kernel
theorem dX0_replayOne_129 : decode cX0_replayOne 129 = .ok (.iload 5, 2) := by decide +kernel
theorem dX0_replayOne_131 : decode cX0_replayOne 131 = .ok (.invokestatic 87, 3) := by decide +kernel
theorem dX0_replayOne_134 : decode cX0_replayOne 134 = .ok (.return_, 1) := by decide +kernel
theorem dX0_moveTons_0 : decode cX0_moveTons 0 = .ok (.iload_n 3, 1) := by decide +kernel
theorem dX0_moveTons_1 : decode cX0_moveTons 1 = .ok (.aload_n 0, 1) := by decide +kernel
theorem dX0_moveTons_2 : decode cX0_moveTons 2 = .ok (.iload_n 1, 1) := by decide +kernel
theorem dX0_moveTons_3 : decode cX0_moveTons 3 = .ok (.iaload, 1) := by decide +kernel
theorem dX0_moveTons_4 : decode cX0_moveTons 4 = .ok (.sipush 999, 3) := by decide +kernel
theorem dX0_moveTons_7 : decode cX0_moveTons 7 = .ok (.aload_n 0, 1) := by decide +kernel
theorem dX0_moveTons_8 : decode cX0_moveTons 8 = .ok (.iload_n 2, 1) := by decide +kernel
theorem dX0_moveTons_9 : decode cX0_moveTons 9 = .ok (.iaload, 1) := by decide +kernel
theorem dX0_moveTons_10 : decode cX0_moveTons 10 = .ok (.isub, 1) := by decide +kernel
theorem dX0_moveTons_11 : decode cX0_moveTons 11 = .ok (.invokestatic 70, 3) := by decide +kernel
theorem dX0_moveTons_14 : decode cX0_moveTons 14 = .ok (.invokestatic 70, 3) := by decide +kernel
theorem dX0_moveTons_17 : decode cX0_moveTons 17 = .ok (.istore 4, 2) := by decide +kernel
theorem dX0_moveTons_19 : decode cX0_moveTons 19 = .ok (.aload_n 0, 1) := by decide +kernel
theorem dX0_moveTons_20 : decode cX0_moveTons 20 = .ok (.iload_n 1, 1) := by decide +kernel
theorem dX0_moveTons_21 : decode cX0_moveTons 21 = .ok (.dup2, 1) := by decide +kernel
theorem dX0_moveTons_22 : decode cX0_moveTons 22 = .ok (.iaload, 1) := by decide +kernel
theorem dX0_moveTons_23 : decode cX0_moveTons 23 = .ok (.iload 4, 2) := by decide +kernel
theorem dX0_moveTons_25 : decode cX0_moveTons 25 = .ok (.isub, 1) := by decide +kernel
theorem dX0_moveTons_26 : decode cX0_moveTons 26 = .ok (.iastore, 1) := by decide +kernel
theorem dX0_moveTons_27 : decode cX0_moveTons 27 = .ok (.aload_n 0, 1) := by decide +kernel
theorem dX0_moveTons_28 : decode cX0_moveTons 28 = .ok (.iload_n 2, 1) := by decide +kernel
theorem dX0_moveTons_29 : decode cX0_moveTons 29 = .ok (.dup2, 1) := by decide +kernel
theorem dX0_moveTons_30 : decode cX0_moveTons 30 = .ok (.iaload, 1) := by decide +kernel
theorem dX0_moveTons_31 : decode cX0_moveTons 31 = .ok (.iload 4, 2) := by decide +kernel
theorem dX0_moveTons_33 : decode cX0_moveTons 33 = .ok (.iadd, 1) := by decide +kernel
theorem dX0_moveTons_34 : decode cX0_moveTons 34 = .ok (.iastore, 1) := by decide +kernel
theorem dX0_moveTons_35 : decode cX0_moveTons 35 = .ok (.return_, 1) := by decide +kernel
theorem dX0_swapTons_0 : decode cX0_swapTons 0 = .ok (.aload_n 0, 1) := by decide +kernel
theorem dX0_swapTons_1 : decode cX0_swapTons 1 = .ok (.iload_n 1, 1) := by decide +kernel
theorem dX0_swapTons_2 : decode cX0_swapTons 2 = .ok (.iaload, 1) := by decide +kernel
theorem dX0_swapTons_3 : decode cX0_swapTons 3 = .ok (.istore_n 3, 1) := by decide +kernel
theorem dX0_swapTons_4 : decode cX0_swapTons 4 = .ok (.aload_n 0, 1) := by decide +kernel
theorem dX0_swapTons_5 : decode cX0_swapTons 5 = .ok (.iload_n 1, 1) := by decide +kernel
theorem dX0_swapTons_6 : decode cX0_swapTons 6 = .ok (.aload_n 0, 1) := by decide +kernel
theorem dX0_swapTons_7 : decode cX0_swapTons 7 = .ok (.iload_n 2, 1) := by decide +kernel
theorem dX0_swapTons_8 : decode cX0_swapTons 8 = .ok (.iaload, 1) := by decide +kernel
theorem dX0_swapTons_9 : decode cX0_swapTons 9 = .ok (.iastore, 1) := by decide +kernel
theorem dX0_swapTons_10 : decode cX0_swapTons 10 = .ok (.aload_n 0, 1) := by decide +kernel
theorem dX0_swapTons_11 : decode cX0_swapTons 11 = .ok (.iload_n 2, 1) := by decide +kernel
theorem dX0_swapTons_12 : decode cX0_swapTons 12 = .ok (.iload_n 3, 1) := by decide +kernel
theorem dX0_swapTons_13 : decode cX0_swapTons 13 = .ok (.iastore, 1) := by decide +kernel
theorem dX0_swapTons_14 : decode cX0_swapTons 14 = .ok (.return_, 1) := by decide +kernel
theorem dX0_levelTons_0 : decode cX0_levelTons 0 = .ok (.aload_n 0, 1) := by decide +kernel
theorem dX0_levelTons_1 : decode cX0_levelTons 1 = .ok (.iload_n 1, 1) := by decide +kernel
theorem dX0_levelTons_2 : decode cX0_levelTons 2 = .ok (.iaload, 1) := by decide +kernel
theorem dX0_levelTons_3 : decode cX0_levelTons 3 = .ok (.aload_n 0, 1) := by decide +kernel
theorem dX0_levelTons_4 : decode cX0_levelTons 4 = .ok (.iload_n 2, 1) := by decide +kernel
theorem dX0_levelTons_5 : decode cX0_levelTons 5 = .ok (.iaload, 1) := by decide +kernel
theorem dX0_levelTons_6 : decode cX0_levelTons 6 = .ok (.iadd, 1) := by decide +kernel
theorem dX0_levelTons_7 : decode cX0_levelTons 7 = .ok (.istore_n 3, 1) := by decide +kernel
theorem dX0_levelTons_8 : decode cX0_levelTons 8 = .ok (.aload_n 0, 1) := by decide +kernel
theorem dX0_levelTons_9 : decode cX0_levelTons 9 = .ok (.iload_n 2, 1) := by decide +kernel
theorem dX0_levelTons_10 : decode cX0_levelTons 10 = .ok (.iload_n 3, 1) := by decide +kernel
theorem dX0_levelTons_11 : decode cX0_levelTons 11 = .ok (.iconst 2, 1) := by decide +kernel
theorem dX0_levelTons_12 : decode cX0_levelTons 12 = .ok (.idiv, 1) := by decide +kernel
theorem dX0_levelTons_13 : decode cX0_levelTons 13 = .ok (.iastore, 1) := by decide +kernel
theorem dX0_levelTons_14 : decode cX0_levelTons 14 = .ok (.aload_n 0, 1) := by decide +kernel
theorem dX0_levelTons_15 : decode cX0_levelTons 15 = .ok (.iload_n 1, 1) := by decide +kernel
theorem dX0_levelTons_16 : decode cX0_levelTons 16 = .ok (.iload_n 3, 1) := by decide +kernel
theorem dX0_levelTons_17 : decode cX0_levelTons 17 = .ok (.aload_n 0, 1) := by decide +kernel
theorem dX0_levelTons_18 : decode cX0_levelTons 18 = .ok (.iload_n 2, 1) := by decide +kernel
theorem dX0_levelTons_19 : decode cX0_levelTons 19 = .ok (.iaload, 1) := by decide +kernel
theorem dX0_levelTons_20 : decode cX0_levelTons 20 = .ok (.isub, 1) := by decide +kernel
theorem dX0_levelTons_21 : decode cX0_levelTons 21 = .ok (.iastore, 1) := by decide +kernel
theorem dX0_levelTons_22 : decode cX0_levelTons 22 = .ok (.return_, 1) := by decide +kernel
theorem dX1_init_0 : decode cX1_init 0 = .ok (.aload_n 0, 1) := by decide +kernel
theorem dX1_init_1 : decode cX1_init 1 = .ok (.invokespecial 3, 3) := by decide +kernel
theorem dX1_init_4 : decode cX1_init 4 = .ok (.aload_n 0, 1) := by decide +kernel
theorem dX1_init_5 : decode cX1_init 5 = .ok (.bipush 8, 2) := by decide +kernel
theorem dX1_init_7 : decode cX1_init 7 = .ok (.newarray .int, 2) := by decide +kernel
theorem dX1_init_9 : decode cX1_init 9 = .ok (.putfield 9, 3) := by decide +kernel
theorem dX1_init_12 : decode cX1_init 12 = .ok (.aload_n 0, 1) := by decide +kernel
theorem dX1_init_13 : decode cX1_init 13 = .ok (.bipush 8, 2) := by decide +kernel
theorem dX1_init_15 : decode cX1_init 15 = .ok (.newarray .int, 2) := by decide +kernel
theorem dX1_init_17 : decode cX1_init 17 = .ok (.putfield 15, 3) := by decide +kernel
theorem dX1_init_20 : decode cX1_init 20 = .ok (.return_, 1) := by decide +kernel
theorem dX1_restart_0 : decode cX1_restart 0 = .ok (.aload_n 0, 1) := by decide +kernel
theorem dX1_restart_1 : decode cX1_restart 1 = .ok (.iconst 0, 1) := by decide +kernel
theorem dX1_restart_2 : decode cX1_restart 2 = .ok (.putfield 18, 3) := by decide +kernel
theorem dX1_restart_5 : decode cX1_restart 5 = .ok (.aload_n 0, 1) := by decide +kernel
theorem dX1_restart_6 : decode cX1_restart 6 = .ok (.iconst 0, 1) := by decide +kernel
theorem dX1_restart_7 : decode cX1_restart 7 = .ok (.putfield 22, 3) := by decide +kernel
theorem dX1_restart_10 : decode cX1_restart 10 = .ok (.aload_n 0, 1) := by decide +kernel
theorem dX1_restart_11 : decode cX1_restart 11 = .ok (.iconst 1, 1) := by decide +kernel
theorem dX1_restart_12 : decode cX1_restart 12 = .ok (.putfield 25, 3) := by decide +kernel
theorem dX1_restart_15 : decode cX1_restart 15 = .ok (.aload_n 0, 1) := by decide +kernel
theorem dX1_restart_16 : decode cX1_restart 16 = .ok (.iconst 0, 1) := by decide +kernel
theorem dX1_restart_17 : decode cX1_restart 17 = .ok (.putfield 29, 3) := by decide +kernel
theorem dX1_restart_20 : decode cX1_restart 20 = .ok (.aload_n 0, 1) := by decide +kernel
theorem dX1_restart_21 : decode cX1_restart 21 = .ok (.iconst 0, 1) := by decide +kernel
theorem dX1_restart_22 : decode cX1_restart 22 = .ok (.putfield 32, 3) := by decide +kernel
theorem dX1_restart_25 : decode cX1_restart 25 = .ok (.iconst 0, 1) := by decide +kernel
theorem dX1_restart_26 : decode cX1_restart 26 = .ok (.istore_n 1, 1) := by decide +kernel
theorem dX1_restart_27 : decode cX1_restart 27 = .ok (.iload_n 1, 1) := by decide +kernel
theorem dX1_restart_28 : decode cX1_restart 28 = .ok (.bipush 8, 2) := by decide +kernel
theorem dX1_restart_30 : decode cX1_restart 30 = .ok (.if_icmp .ge 23, 3) := by decide +kernel
theorem dX1_restart_33 : decode cX1_restart 33 = .ok (.aload_n 0, 1) := by decide +kernel
theorem dX1_restart_34 : decode cX1_restart 34 = .ok (.getfield 9, 3) := by decide +kernel
theorem dX1_restart_37 : decode cX1_restart 37 = .ok (.iload_n 1, 1) := by decide +kernel
theorem dX1_restart_38 : decode cX1_restart 38 = .ok (.iconst 0, 1) := by decide +kernel
theorem dX1_restart_39 : decode cX1_restart 39 = .ok (.iastore, 1) := by decide +kernel
theorem dX1_restart_40 : decode cX1_restart 40 = .ok (.aload_n 0, 1) := by decide +kernel
theorem dX1_restart_41 : decode cX1_restart 41 = .ok (.getfield 15, 3) := by decide +kernel
theorem dX1_restart_44 : decode cX1_restart 44 = .ok (.iload_n 1, 1) := by decide +kernel
theorem dX1_restart_45 : decode cX1_restart 45 = .ok (.iconst 0, 1) := by decide +kernel
theorem dX1_restart_46 : decode cX1_restart 46 = .ok (.iastore, 1) := by decide +kernel
theorem dX1_restart_47 : decode cX1_restart 47 = .ok (.iinc 1 1, 3) := by decide +kernel
theorem dX1_restart_50 : decode cX1_restart 50 = .ok (.goto (-23), 3) := by decide +kernel
theorem dX1_restart_53 : decode cX1_restart 53 = .ok (.return_, 1) := by decide +kernel
theorem dX1_copyFrom_0 : decode cX1_copyFrom 0 = .ok (.aload_n 0, 1) := by decide +kernel
theorem dX1_copyFrom_1 : decode cX1_copyFrom 1 = .ok (.aload_n 1, 1) := by decide +kernel
theorem dX1_copyFrom_2 : decode cX1_copyFrom 2 = .ok (.getfield 18, 3) := by decide +kernel
theorem dX1_copyFrom_5 : decode cX1_copyFrom 5 = .ok (.putfield 18, 3) := by decide +kernel
theorem dX1_copyFrom_8 : decode cX1_copyFrom 8 = .ok (.aload_n 0, 1) := by decide +kernel
theorem dX1_copyFrom_9 : decode cX1_copyFrom 9 = .ok (.aload_n 1, 1) := by decide +kernel
theorem dX1_copyFrom_10 : decode cX1_copyFrom 10 = .ok (.getfield 22, 3) := by decide +kernel
theorem dX1_copyFrom_13 : decode cX1_copyFrom 13 = .ok (.putfield 22, 3) := by decide +kernel
theorem dX1_copyFrom_16 : decode cX1_copyFrom 16 = .ok (.aload_n 0, 1) := by decide +kernel
theorem dX1_copyFrom_17 : decode cX1_copyFrom 17 = .ok (.aload_n 1, 1) := by decide +kernel
theorem dX1_copyFrom_18 : decode cX1_copyFrom 18 = .ok (.getfield 25, 3) := by decide +kernel
theorem dX1_copyFrom_21 : decode cX1_copyFrom 21 = .ok (.putfield 25, 3) := by decide +kernel
theorem dX1_copyFrom_24 : decode cX1_copyFrom 24 = .ok (.aload_n 0, 1) := by decide +kernel
theorem dX1_copyFrom_25 : decode cX1_copyFrom 25 = .ok (.aload_n 1, 1) := by decide +kernel
theorem dX1_copyFrom_26 : decode cX1_copyFrom 26 = .ok (.getfield 29, 3) := by decide +kernel
theorem dX1_copyFrom_29 : decode cX1_copyFrom 29 = .ok (.putfield 29, 3) := by decide +kernel
theorem dX1_copyFrom_32 : decode cX1_copyFrom 32 = .ok (.aload_n 0, 1) := by decide +kernel
theorem dX1_copyFrom_33 : decode cX1_copyFrom 33 = .ok (.aload_n 1, 1) := by decide +kernel
theorem dX1_copyFrom_34 : decode cX1_copyFrom 34 = .ok (.getfield 32, 3) := by decide +kernel
theorem dX1_copyFrom_37 : decode cX1_copyFrom 37 = .ok (.putfield 32, 3) := by decide +kernel
theorem dX1_copyFrom_40 : decode cX1_copyFrom 40 = .ok (.aload_n 1, 1) := by decide +kernel
theorem dX1_copyFrom_41 : decode cX1_copyFrom 41 = .ok (.getfield 9, 3) := by decide +kernel
theorem dX1_copyFrom_44 : decode cX1_copyFrom 44 = .ok (.iconst 0, 1) := by decide +kernel
theorem dX1_copyFrom_45 : decode cX1_copyFrom 45 = .ok (.aload_n 0, 1) := by decide +kernel
theorem dX1_copyFrom_46 : decode cX1_copyFrom 46 = .ok (.getfield 9, 3) := by decide +kernel
theorem dX1_copyFrom_49 : decode cX1_copyFrom 49 = .ok (.iconst 0, 1) := by decide +kernel
theorem dX1_copyFrom_50 : decode cX1_copyFrom 50 = .ok (.bipush 8, 2) := by decide +kernel
theorem dX1_copyFrom_52 : decode cX1_copyFrom 52 = .ok (.invokestatic 35, 3) := by decide +kernel
theorem dX1_copyFrom_55 : decode cX1_copyFrom 55 = .ok (.aload_n 1, 1) := by decide +kernel
theorem dX1_copyFrom_56 : decode cX1_copyFrom 56 = .ok (.getfield 15, 3) := by decide +kernel
theorem dX1_copyFrom_59 : decode cX1_copyFrom 59 = .ok (.iconst 0, 1) := by decide +kernel
theorem dX1_copyFrom_60 : decode cX1_copyFrom 60 = .ok (.aload_n 0, 1) := by decide +kernel
theorem dX1_copyFrom_61 : decode cX1_copyFrom 61 = .ok (.getfield 15, 3) := by decide +kernel
theorem dX1_copyFrom_64 : decode cX1_copyFrom 64 = .ok (.iconst 0, 1) := by decide +kernel
theorem dX1_copyFrom_65 : decode cX1_copyFrom 65 = .ok (.bipush 8, 2) := by decide +kernel
theorem dX1_copyFrom_67 : decode cX1_copyFrom 67 = .ok (.invokestatic 35, 3) := by decide +kernel
theorem dX1_copyFrom_70 : decode cX1_copyFrom 70 = .ok (.return_, 1) := by decide +kernel
theorem dX1_keepSnapshot_0 : decode cX1_keepSnapshot 0 = .ok (.aload_n 0, 1) := by decide +kernel
theorem dX1_keepSnapshot_1 : decode cX1_keepSnapshot 1 = .ok (.aload_n 0, 1) := by decide +kernel
theorem dX1_keepSnapshot_2 : decode cX1_keepSnapshot 2 = .ok (.getfield 18, 3) := by decide +kernel
theorem dX1_keepSnapshot_5 : decode cX1_keepSnapshot 5 = .ok (.putfield 22, 3) := by decide +kernel
theorem dX1_keepSnapshot_8 : decode cX1_keepSnapshot 8 = .ok (.aload_n 0, 1) := by decide +kernel
theorem dX1_keepSnapshot_9 : decode cX1_keepSnapshot 9 = .ok (.getfield 9, 3) := by decide +kernel
theorem dX1_keepSnapshot_12 : decode cX1_keepSnapshot 12 = .ok (.iconst 0, 1) := by decide +kernel
theorem dX1_keepSnapshot_13 : decode cX1_keepSnapshot 13 = .ok (.aload_n 0, 1) := by decide +kernel
theorem dX1_keepSnapshot_14 : decode cX1_keepSnapshot 14 = .ok (.getfield 15, 3) := by decide +kernel
theorem dX1_keepSnapshot_17 : decode cX1_keepSnapshot 17 = .ok (.iconst 0, 1) := by decide +kernel
theorem dX1_keepSnapshot_18 : decode cX1_keepSnapshot 18 = .ok (.bipush 8, 2) := by decide +kernel
theorem dX1_keepSnapshot_20 : decode cX1_keepSnapshot 20 = .ok (.invokestatic 35, 3) := by decide +kernel
theorem dX1_keepSnapshot_23 : decode cX1_keepSnapshot 23 = .ok (.return_, 1) := by decide +kernel
theorem dX1_fallBack_0 : decode cX1_fallBack 0 = .ok (.aload_n 0, 1) := by decide +kernel
theorem dX1_fallBack_1 : decode cX1_fallBack 1 = .ok (.getfield 18, 3) := by decide +kernel
theorem dX1_fallBack_4 : decode cX1_fallBack 4 = .ok (.aload_n 0, 1) := by decide +kernel
theorem dX1_fallBack_5 : decode cX1_fallBack 5 = .ok (.getfield 22, 3) := by decide +kernel
theorem dX1_fallBack_8 : decode cX1_fallBack 8 = .ok (.isub, 1) := by decide +kernel
theorem dX1_fallBack_9 : decode cX1_fallBack 9 = .ok (.istore_n 1, 1) := by decide +kernel
theorem dX1_fallBack_10 : decode cX1_fallBack 10 = .ok (.aload_n 0, 1) := by decide +kernel
theorem dX1_fallBack_11 : decode cX1_fallBack 11 = .ok (.aload_n 0, 1) := by decide +kernel
theorem dX1_fallBack_12 : decode cX1_fallBack 12 = .ok (.getfield 22, 3) := by decide +kernel
theorem dX1_fallBack_15 : decode cX1_fallBack 15 = .ok (.putfield 18, 3) := by decide +kernel
theorem dX1_fallBack_18 : decode cX1_fallBack 18 = .ok (.aload_n 0, 1) := by decide +kernel
theorem dX1_fallBack_19 : decode cX1_fallBack 19 = .ok (.getfield 15, 3) := by decide +kernel
theorem dX1_fallBack_22 : decode cX1_fallBack 22 = .ok (.iconst 0, 1) := by decide +kernel
theorem dX1_fallBack_23 : decode cX1_fallBack 23 = .ok (.aload_n 0, 1) := by decide +kernel
theorem dX1_fallBack_24 : decode cX1_fallBack 24 = .ok (.getfield 9, 3) := by decide +kernel
theorem dX1_fallBack_27 : decode cX1_fallBack 27 = .ok (.iconst 0, 1) := by decide +kernel
theorem dX1_fallBack_28 : decode cX1_fallBack 28 = .ok (.bipush 8, 2) := by decide +kernel
theorem dX1_fallBack_30 : decode cX1_fallBack 30 = .ok (.invokestatic 35, 3) := by decide +kernel
theorem dX1_fallBack_33 : decode cX1_fallBack 33 = .ok (.aload_n 0, 1) := by decide +kernel
theorem dX1_fallBack_34 : decode cX1_fallBack 34 = .ok (.dup, 1) := by decide +kernel
theorem dX1_fallBack_35 : decode cX1_fallBack 35 = .ok (.getfield 32, 3) := by decide +kernel
theorem dX1_fallBack_38 : decode cX1_fallBack 38 = .ok (.iconst 1, 1) := by decide +kernel
theorem dX1_fallBack_39 : decode cX1_fallBack 39 = .ok (.iadd, 1) := by decide +kernel
theorem dX1_fallBack_40 : decode cX1_fallBack 40 = .ok (.putfield 32, 3) := by decide +kernel
theorem dX1_fallBack_43 : decode cX1_fallBack 43 = .ok (.iload_n 1, 1) := by decide +kernel
theorem dX1_fallBack_44 : decode cX1_fallBack 44 = .ok (.ireturn, 1) := by decide +kernel
theorem dX1_sumOfTons_0 : decode cX1_sumOfTons 0 = .ok (.iconst 0, 1) := by decide +kernel
theorem dX1_sumOfTons_1 : decode cX1_sumOfTons 1 = .ok (.istore_n 1, 1) := by decide +kernel
theorem dX1_sumOfTons_2 : decode cX1_sumOfTons 2 = .ok (.iconst 0, 1) := by decide +kernel
theorem dX1_sumOfTons_3 : decode cX1_sumOfTons 3 = .ok (.istore_n 2, 1) := by decide +kernel
theorem dX1_sumOfTons_4 : decode cX1_sumOfTons 4 = .ok (.iload_n 2, 1) := by decide +kernel
theorem dX1_sumOfTons_5 : decode cX1_sumOfTons 5 = .ok (.bipush 8, 2) := by decide +kernel
theorem dX1_sumOfTons_7 : decode cX1_sumOfTons 7 = .ok (.if_icmp .ge 18, 3) := by decide +kernel
theorem dX1_sumOfTons_10 : decode cX1_sumOfTons 10 = .ok (.iload_n 1, 1) := by decide +kernel
theorem dX1_sumOfTons_11 : decode cX1_sumOfTons 11 = .ok (.aload_n 0, 1) := by decide +kernel
theorem dX1_sumOfTons_12 : decode cX1_sumOfTons 12 = .ok (.getfield 9, 3) := by decide +kernel
theorem dX1_sumOfTons_15 : decode cX1_sumOfTons 15 = .ok (.iload_n 2, 1) := by decide +kernel
theorem dX1_sumOfTons_16 : decode cX1_sumOfTons 16 = .ok (.iaload, 1) := by decide +kernel
theorem dX1_sumOfTons_17 : decode cX1_sumOfTons 17 = .ok (.iadd, 1) := by decide +kernel
theorem dX1_sumOfTons_18 : decode cX1_sumOfTons 18 = .ok (.istore_n 1, 1) := by decide +kernel
theorem dX1_sumOfTons_19 : decode cX1_sumOfTons 19 = .ok (.iinc 2 1, 3) := by decide +kernel
theorem dX1_sumOfTons_22 : decode cX1_sumOfTons 22 = .ok (.goto (-18), 3) := by decide +kernel
theorem dX1_sumOfTons_25 : decode cX1_sumOfTons 25 = .ok (.iload_n 1, 1) := by decide +kernel
theorem dX1_sumOfTons_26 : decode cX1_sumOfTons 26 = .ok (.ireturn, 1) := by decide +kernel
theorem dX1_hasHolds_0 : decode cX1_hasHolds 0 = .ok (.iconst 0, 1) := by decide +kernel
theorem dX1_hasHolds_1 : decode cX1_hasHolds 1 = .ok (.istore_n 2, 1) := by decide +kernel
theorem dX1_hasHolds_2 : decode cX1_hasHolds 2 = .ok (.iload_n 2, 1) := by decide +kernel
theorem dX1_hasHolds_3 : decode cX1_hasHolds 3 = .ok (.bipush 8, 2) := by decide +kernel
theorem dX1_hasHolds_5 : decode cX1_hasHolds 5 = .ok (.if_icmp .ge 23, 3) := by decide +kernel
theorem dX1_hasHolds_8 : decode cX1_hasHolds 8 = .ok (.aload_n 0, 1) := by decide +kernel
theorem dX1_hasHolds_9 : decode cX1_hasHolds 9 = .ok (.getfield 9, 3) := by decide +kernel
theorem dX1_hasHolds_12 : decode cX1_hasHolds 12 = .ok (.iload_n 2, 1) := by decide +kernel
theorem dX1_hasHolds_13 : decode cX1_hasHolds 13 = .ok (.iaload, 1) := by decide +kernel
theorem dX1_hasHolds_14 : decode cX1_hasHolds 14 = .ok (.aload_n 1, 1) := by decide +kernel
theorem dX1_hasHolds_15 : decode cX1_hasHolds 15 = .ok (.iload_n 2, 1) := by decide +kernel
theorem dX1_hasHolds_16 : decode cX1_hasHolds 16 = .ok (.iaload, 1) := by decide +kernel
theorem dX1_hasHolds_17 : decode cX1_hasHolds 17 = .ok (.if_icmp .eq 5, 3) := by decide +kernel
theorem dX1_hasHolds_20 : decode cX1_hasHolds 20 = .ok (.iconst 0, 1) := by decide +kernel
theorem dX1_hasHolds_21 : decode cX1_hasHolds 21 = .ok (.ireturn, 1) := by decide +kernel
theorem dX1_hasHolds_22 : decode cX1_hasHolds 22 = .ok (.iinc 2 1, 3) := by decide +kernel
theorem dX1_hasHolds_25 : decode cX1_hasHolds 25 = .ok (.goto (-23), 3) := by decide +kernel
theorem dX1_hasHolds_28 : decode cX1_hasHolds 28 = .ok (.iconst 1, 1) := by decide +kernel
theorem dX1_hasHolds_29 : decode cX1_hasHolds 29 = .ok (.ireturn, 1) := by decide +kernel
theorem dX2_init_0 : decode cX2_init 0 = .ok (.aload_n 0, 1) := by decide +kernel
theorem dX2_init_1 : decode cX2_init 1 = .ok (.invokespecial 3, 3) := by decide +kernel
theorem dX2_init_4 : decode cX2_init 4 = .ok (.aload_n 0, 1) := by decide +kernel
theorem dX2_init_5 : decode cX2_init 5 = .ok (.new 9, 3) := by decide +kernel
theorem dX2_init_8 : decode cX2_init 8 = .ok (.dup, 1) := by decide +kernel
theorem dX2_init_9 : decode cX2_init 9 = .ok (.invokespecial 11, 3) := by decide +kernel
theorem dX2_init_12 : decode cX2_init 12 = .ok (.putfield 12, 3) := by decide +kernel
theorem dX2_init_15 : decode cX2_init 15 = .ok (.aload_n 0, 1) := by decide +kernel
theorem dX2_init_16 : decode cX2_init 16 = .ok (.new 18, 3) := by decide +kernel
theorem dX2_init_19 : decode cX2_init 19 = .ok (.dup, 1) := by decide +kernel
theorem dX2_init_20 : decode cX2_init 20 = .ok (.invokespecial 20, 3) := by decide +kernel
theorem dX2_init_23 : decode cX2_init 23 = .ok (.putfield 21, 3) := by decide +kernel
theorem dX2_init_26 : decode cX2_init 26 = .ok (.aload_n 0, 1) := by decide +kernel
theorem dX2_init_27 : decode cX2_init 27 = .ok (.new 18, 3) := by decide +kernel
theorem dX2_init_30 : decode cX2_init 30 = .ok (.dup, 1) := by decide +kernel
theorem dX2_init_31 : decode cX2_init 31 = .ok (.invokespecial 20, 3) := by decide +kernel
theorem dX2_init_34 : decode cX2_init 34 = .ok (.putfield 25, 3) := by decide +kernel
theorem dX2_init_37 : decode cX2_init 37 = .ok (.aload_n 0, 1) := by decide +kernel
theorem dX2_init_38 : decode cX2_init 38 = .ok (.bipush 8, 2) := by decide +kernel
theorem dX2_init_40 : decode cX2_init 40 = .ok (.invokevirtual 28, 3) := by decide +kernel
theorem dX2_init_43 : decode cX2_init 43 = .ok (.return_, 1) := by decide +kernel
theorem dX2_restart_0 : decode cX2_restart 0 = .ok (.aload_n 0, 1) := by decide +kernel
theorem dX2_restart_1 : decode cX2_restart 1 = .ok (.getfield 12, 3) := by decide +kernel
theorem dX2_restart_4 : decode cX2_restart 4 = .ok (.iload_n 1, 1) := by decide +kernel
theorem dX2_restart_5 : decode cX2_restart 5 = .ok (.invokevirtual 32, 3) := by decide +kernel
theorem dX2_restart_8 : decode cX2_restart 8 = .ok (.aload_n 0, 1) := by decide +kernel
theorem dX2_restart_9 : decode cX2_restart 9 = .ok (.getfield 21, 3) := by decide +kernel
theorem dX2_restart_12 : decode cX2_restart 12 = .ok (.invokevirtual 33, 3) := by decide +kernel
theorem dX2_restart_15 : decode cX2_restart 15 = .ok (.aload_n 0, 1) := by decide +kernel
theorem dX2_restart_16 : decode cX2_restart 16 = .ok (.getfield 25, 3) := by decide +kernel
theorem dX2_restart_19 : decode cX2_restart 19 = .ok (.invokevirtual 33, 3) := by decide +kernel
theorem dX2_restart_22 : decode cX2_restart 22 = .ok (.aload_n 0, 1) := by decide +kernel
theorem dX2_restart_23 : decode cX2_restart 23 = .ok (.iconst 0, 1) := by decide +kernel
theorem dX2_restart_24 : decode cX2_restart 24 = .ok (.putfield 35, 3) := by decide +kernel
theorem dX2_restart_27 : decode cX2_restart 27 = .ok (.return_, 1) := by decide +kernel
theorem dX2_copyFrom_0 : decode cX2_copyFrom 0 = .ok (.aload_n 0, 1) := by decide +kernel
theorem dX2_copyFrom_1 : decode cX2_copyFrom 1 = .ok (.getfield 12, 3) := by decide +kernel
theorem dX2_copyFrom_4 : decode cX2_copyFrom 4 = .ok (.aload_n 1, 1) := by decide +kernel
theorem dX2_copyFrom_5 : decode cX2_copyFrom 5 = .ok (.getfield 12, 3) := by decide +kernel
theorem dX2_copyFrom_8 : decode cX2_copyFrom 8 = .ok (.invokevirtual 39, 3) := by decide +kernel
theorem dX2_copyFrom_11 : decode cX2_copyFrom 11 = .ok (.aload_n 0, 1) := by decide +kernel
theorem dX2_copyFrom_12 : decode cX2_copyFrom 12 = .ok (.getfield 21, 3) := by decide +kernel
theorem dX2_copyFrom_15 : decode cX2_copyFrom 15 = .ok (.aload_n 1, 1) := by decide +kernel
theorem dX2_copyFrom_16 : decode cX2_copyFrom 16 = .ok (.getfield 21, 3) := by decide +kernel
theorem dX2_copyFrom_19 : decode cX2_copyFrom 19 = .ok (.invokevirtual 43, 3) := by decide +kernel
theorem dX2_copyFrom_22 : decode cX2_copyFrom 22 = .ok (.aload_n 0, 1) := by decide +kernel
theorem dX2_copyFrom_23 : decode cX2_copyFrom 23 = .ok (.getfield 25, 3) := by decide +kernel
theorem dX2_copyFrom_26 : decode cX2_copyFrom 26 = .ok (.aload_n 1, 1) := by decide +kernel
theorem dX2_copyFrom_27 : decode cX2_copyFrom 27 = .ok (.getfield 25, 3) := by decide +kernel
theorem dX2_copyFrom_30 : decode cX2_copyFrom 30 = .ok (.invokevirtual 43, 3) := by decide +kernel
theorem dX2_copyFrom_33 : decode cX2_copyFrom 33 = .ok (.aload_n 0, 1) := by decide +kernel
theorem dX2_copyFrom_34 : decode cX2_copyFrom 34 = .ok (.aload_n 1, 1) := by decide +kernel
theorem dX2_copyFrom_35 : decode cX2_copyFrom 35 = .ok (.getfield 35, 3) := by decide +kernel
theorem dX2_copyFrom_38 : decode cX2_copyFrom 38 = .ok (.putfield 35, 3) := by decide +kernel
theorem dX2_copyFrom_41 : decode cX2_copyFrom 41 = .ok (.return_, 1) := by decide +kernel
theorem dX2_shipOf_0 : decode cX2_shipOf 0 = .ok (.iload_n 1, 1) := by decide +kernel
theorem dX2_shipOf_1 : decode cX2_shipOf 1 = .ok (.ifCond .ne 10, 3) := by decide +kernel
theorem dX2_shipOf_4 : decode cX2_shipOf 4 = .ok (.aload_n 0, 1) := by decide +kernel
theorem dX2_shipOf_5 : decode cX2_shipOf 5 = .ok (.getfield 21, 3) := by decide +kernel
theorem dX2_shipOf_8 : decode cX2_shipOf 8 = .ok (.goto 7, 3) := by decide +kernel
theorem dX2_shipOf_11 : decode cX2_shipOf 11 = .ok (.aload_n 0, 1) := by decide +kernel
theorem dX2_shipOf_12 : decode cX2_shipOf 12 = .ok (.getfield 25, 3) := by decide +kernel
theorem dX2_shipOf_15 : decode cX2_shipOf 15 = .ok (.areturn, 1) := by decide +kernel
theorem dX2_otherThan_0 : decode cX2_otherThan 0 = .ok (.aload_n 1, 1) := by decide +kernel
theorem dX2_otherThan_1 : decode cX2_otherThan 1 = .ok (.aload_n 0, 1) := by decide +kernel
theorem dX2_otherThan_2 : decode cX2_otherThan 2 = .ok (.getfield 21, 3) := by decide +kernel
theorem dX2_otherThan_5 : decode cX2_otherThan 5 = .ok (.if_acmp .ne 10, 3) := by decide +kernel
theorem dX2_otherThan_8 : decode cX2_otherThan 8 = .ok (.aload_n 0, 1) := by decide +kernel
theorem dX2_otherThan_9 : decode cX2_otherThan 9 = .ok (.getfield 25, 3) := by decide +kernel
theorem dX2_otherThan_12 : decode cX2_otherThan 12 = .ok (.goto 7, 3) := by decide +kernel
theorem dX2_otherThan_15 : decode cX2_otherThan 15 = .ok (.aload_n 0, 1) := by decide +kernel
theorem dX2_otherThan_16 : decode cX2_otherThan 16 = .ok (.getfield 21, 3) := by decide +kernel
theorem dX2_otherThan_19 : decode cX2_otherThan 19 = .ok (.areturn, 1) := by decide +kernel
theorem dX2_shipBehind_0 : decode cX2_shipBehind 0 = .ok (.aload_n 0, 1) := by decide +kernel
theorem dX2_shipBehind_1 : decode cX2_shipBehind 1 = .ok (.getfield 21, 3) := by decide +kernel
theorem dX2_shipBehind_4 : decode cX2_shipBehind 4 = .ok (.getfield 46, 3) := by decide +kernel
theorem dX2_shipBehind_7 : decode cX2_shipBehind 7 = .ok (.aload_n 0, 1) := by decide +kernel
theorem dX2_shipBehind_8 : decode cX2_shipBehind 8 = .ok (.getfield 25, 3) := by decide +kernel
theorem dX2_shipBehind_11 : decode cX2_shipBehind 11 = .ok (.getfield 46, 3) := by decide +kernel
theorem dX2_shipBehind_14 : decode cX2_shipBehind 14 = .ok (.if_icmp .gt 10, 3) := by decide +kernel
theorem dX2_shipBehind_17 : decode cX2_shipBehind 17 = .ok (.aload_n 0, 1) := by decide +kernel
theorem dX2_shipBehind_18 : decode cX2_shipBehind 18 = .ok (.getfield 21, 3) := by decide +kernel
theorem dX2_shipBehind_21 : decode cX2_shipBehind 21 = .ok (.goto 7, 3) := by decide +kernel
theorem dX2_shipBehind_24 : decode cX2_shipBehind 24 = .ok (.aload_n 0, 1) := by decide +kernel
theorem dX2_shipBehind_25 : decode cX2_shipBehind 25 = .ok (.getfield 25, 3) := by decide +kernel
theorem dX2_shipBehind_28 : decode cX2_shipBehind 28 = .ok (.areturn, 1) := by decide +kernel
theorem dX2_slowerSnapshot_0 : decode cX2_slowerSnapshot 0 = .ok (.aload_n 0, 1) := by decide +kernel
theorem dX2_slowerSnapshot_1 : decode cX2_slowerSnapshot 1 = .ok (.getfield 21, 3) := by decide +kernel
theorem dX2_slowerSnapshot_4 : decode cX2_slowerSnapshot 4 = .ok (.getfield 49, 3) := by decide +kernel
theorem dX2_slowerSnapshot_7 : decode cX2_slowerSnapshot 7 = .ok (.aload_n 0, 1) := by decide +kernel
theorem dX2_slowerSnapshot_8 : decode cX2_slowerSnapshot 8 = .ok (.getfield 25, 3) := by decide +kernel
theorem dX2_slowerSnapshot_11 : decode cX2_slowerSnapshot 11 = .ok (.getfield 49, 3) := by decide +kernel
theorem dX2_slowerSnapshot_14 : decode cX2_slowerSnapshot 14 = .ok (.if_icmp .gt 10, 3) := by decide +kernel
theorem dX2_slowerSnapshot_17 : decode cX2_slowerSnapshot 17 = .ok (.aload_n 0, 1) := by decide +kernel
theorem dX2_slowerSnapshot_18 : decode cX2_slowerSnapshot 18 = .ok (.getfield 21, 3) := by decide +kernel
theorem dX2_slowerSnapshot_21 : decode cX2_slowerSnapshot 21 = .ok (.goto 7, 3) := by decide +kernel
theorem dX2_slowerSnapshot_24 : decode cX2_slowerSnapshot 24 = .ok (.aload_n 0, 1) := by decide +kernel
theorem dX2_slowerSnapshot_25 : decode cX2_slowerSnapshot 25 = .ok (.getfield 25, 3) := by decide +kernel
theorem dX2_slowerSnapshot_28 : decode cX2_slowerSnapshot 28 = .ok (.areturn, 1) := by decide +kernel
theorem dX2_linksUp_0 : decode cX2_linksUp 0 = .ok (.aload_n 0, 1) := by decide +kernel
theorem dX2_linksUp_1 : decode cX2_linksUp 1 = .ok (.getfield 21, 3) := by decide +kernel
theorem dX2_linksUp_4 : decode cX2_linksUp 4 = .ok (.getfield 52, 3) := by decide +kernel
theorem dX2_linksUp_7 : decode cX2_linksUp 7 = .ok (.ifCond .eq 7, 3) := by decide +kernel
theorem dX2_linksUp_10 : decode cX2_linksUp 10 = .ok (.iconst 1, 1) := by decide +kernel
theorem dX2_linksUp_11 : decode cX2_linksUp 11 = .ok (.goto 4, 3) := by decide +kernel
theorem dX2_linksUp_14 : decode cX2_linksUp 14 = .ok (.iconst 0, 1) := by decide +kernel
theorem dX2_linksUp_15 : decode cX2_linksUp 15 = .ok (.aload_n 0, 1) := by decide +kernel
theorem dX2_linksUp_16 : decode cX2_linksUp 16 = .ok (.getfield 25, 3) := by decide +kernel
theorem dX2_linksUp_19 : decode cX2_linksUp 19 = .ok (.getfield 52, 3) := by decide +kernel
theorem dX2_linksUp_22 : decode cX2_linksUp 22 = .ok (.ifCond .eq 7, 3) := by decide +kernel
theorem dX2_linksUp_25 : decode cX2_linksUp 25 = .ok (.iconst 1, 1) := by decide +kernel
theorem dX2_linksUp_26 : decode cX2_linksUp 26 = .ok (.goto 4, 3) := by decide +kernel
theorem dX2_linksUp_29 : decode cX2_linksUp 29 = .ok (.iconst 0, 1) := by decide +kernel
theorem dX2_linksUp_30 : decode cX2_linksUp 30 = .ok (.iadd, 1) := by decide +kernel
theorem dX2_linksUp_31 : decode cX2_linksUp 31 = .ok (.ireturn, 1) := by decide +kernel
theorem dX2_replayedBy_0 : decode cX2_replayedBy 0 = .ok (.aload_n 0, 1) := by decide +kernel
theorem dX2_replayedBy_1 : decode cX2_replayedBy 1 = .ok (.getfield 21, 3) := by decide +kernel
theorem dX2_replayedBy_4 : decode cX2_replayedBy 4 = .ok (.getfield 46, 3) := by decide +kernel
theorem dX2_replayedBy_7 : decode cX2_replayedBy 7 = .ok (.iload_n 1, 1) := by decide +kernel
theorem dX2_replayedBy_8 : decode cX2_replayedBy 8 = .ok (.if_icmp .le 7, 3) := by decide +kernel
theorem dX2_replayedBy_11 : decode cX2_replayedBy 11 = .ok (.iconst 1, 1) := by decide +kernel
theorem dX2_replayedBy_12 : decode cX2_replayedBy 12 = .ok (.goto 4, 3) := by decide +kernel
theorem dX2_replayedBy_15 : decode cX2_replayedBy 15 = .ok (.iconst 0, 1) := by decide +kernel
theorem dX2_replayedBy_16 : decode cX2_replayedBy 16 = .ok (.aload_n 0, 1) := by decide +kernel
theorem dX2_replayedBy_17 : decode cX2_replayedBy 17 = .ok (.getfield 25, 3) := by decide +kernel
theorem dX2_replayedBy_20 : decode cX2_replayedBy 20 = .ok (.getfield 46, 3) := by decide +kernel
theorem dX2_replayedBy_23 : decode cX2_replayedBy 23 = .ok (.iload_n 1, 1) := by decide +kernel
theorem dX2_replayedBy_24 : decode cX2_replayedBy 24 = .ok (.if_icmp .le 7, 3) := by decide +kernel
theorem dX2_replayedBy_27 : decode cX2_replayedBy 27 = .ok (.iconst 2, 1) := by decide +kernel
theorem dX2_replayedBy_28 : decode cX2_replayedBy 28 = .ok (.goto 4, 3) := by decide +kernel
theorem dX2_replayedBy_31 : decode cX2_replayedBy 31 = .ok (.iconst 0, 1) := by decide +kernel
theorem dX2_replayedBy_32 : decode cX2_replayedBy 32 = .ok (.iadd, 1) := by decide +kernel
theorem dX2_replayedBy_33 : decode cX2_replayedBy 33 = .ok (.ireturn, 1) := by decide +kernel
theorem dX2_replayOrders_0 : decode cX2_replayOrders 0 = .ok (.iconst 0, 1) := by decide +kernel
theorem dX2_replayOrders_1 : decode cX2_replayOrders 1 = .ok (.istore_n 3, 1) := by decide +kernel
theorem dX2_replayOrders_2 : decode cX2_replayOrders 2 = .ok (.iload_n 3, 1) := by decide +kernel
theorem dX2_replayOrders_3 : decode cX2_replayOrders 3 = .ok (.iload_n 2, 1) := by decide +kernel
theorem dX2_replayOrders_4 : decode cX2_replayOrders 4 = .ok (.if_icmp .ge 54, 3) := by decide +kernel
theorem dX2_replayOrders_7 : decode cX2_replayOrders 7 = .ok (.aload_n 0, 1) := by decide +kernel
theorem dX2_replayOrders_8 : decode cX2_replayOrders 8 = .ok (.aload_n 1, 1) := by decide +kernel
theorem dX2_replayOrders_9 : decode cX2_replayOrders 9 = .ok (.invokevirtual 56, 3) := by decide +kernel
theorem dX2_replayOrders_12 : decode cX2_replayOrders 12 = .ok (.ifCond .ne 5, 3) := by decide +kernel
theorem dX2_replayOrders_15 : decode cX2_replayOrders 15 = .ok (.iload_n 3, 1) := by decide +kernel
theorem dX2_replayOrders_16 : decode cX2_replayOrders 16 = .ok (.ireturn, 1) := by decide +kernel
theorem dX2_replayOrders_17 : decode cX2_replayOrders 17 = .ok (.aload_n 0, 1) := by decide +kernel
theorem dX2_replayOrders_18 : decode cX2_replayOrders 18 = .ok (.getfield 12, 3) := by decide +kernel
theorem dX2_replayOrders_21 : decode cX2_replayOrders 21 = .ok (.aload_n 1, 1) := by decide +kernel
theorem dX2_replayOrders_22 : decode cX2_replayOrders 22 = .ok (.getfield 60, 3) := by decide +kernel
theorem dX2_replayOrders_25 : decode cX2_replayOrders 25 = .ok (.aload_n 1, 1) := by decide +kernel
theorem dX2_replayOrders_26 : decode cX2_replayOrders 26 = .ok (.getfield 46, 3) := by decide +kernel
theorem dX2_replayOrders_29 : decode cX2_replayOrders 29 = .ok (.invokevirtual 64, 3) := by decide +kernel
theorem dX2_replayOrders_32 : decode cX2_replayOrders 32 = .ok (.aload_n 1, 1) := by decide +kernel
theorem dX2_replayOrders_33 : decode cX2_replayOrders 33 = .ok (.dup, 1) := by decide +kernel
theorem dX2_replayOrders_34 : decode cX2_replayOrders 34 = .ok (.getfield 46, 3) := by decide +kernel
theorem dX2_replayOrders_37 : decode cX2_replayOrders 37 = .ok (.iconst 1, 1) := by decide +kernel
theorem dX2_replayOrders_38 : decode cX2_replayOrders 38 = .ok (.iadd, 1) := by decide +kernel
theorem dX2_replayOrders_39 : decode cX2_replayOrders 39 = .ok (.putfield 46, 3) := by decide +kernel
theorem dX2_replayOrders_42 : decode cX2_replayOrders 42 = .ok (.aload_n 1, 1) := by decide +kernel
theorem dX2_replayOrders_43 : decode cX2_replayOrders 43 = .ok (.dup, 1) := by decide +kernel
theorem dX2_replayOrders_44 : decode cX2_replayOrders 44 = .ok (.getfield 68, 3) := by decide +kernel
theorem dX2_replayOrders_47 : decode cX2_replayOrders 47 = .ok (.iconst 1, 1) := by decide +kernel
theorem dX2_replayOrders_48 : decode cX2_replayOrders 48 = .ok (.iadd, 1) := by decide +kernel
theorem dX2_replayOrders_49 : decode cX2_replayOrders 49 = .ok (.putfield 68, 3) := by decide +kernel
theorem dX2_replayOrders_52 : decode cX2_replayOrders 52 = .ok (.iinc 3 1, 3) := by decide +kernel
theorem dX2_replayOrders_55 : decode cX2_replayOrders 55 = .ok (.goto (-53), 3) := by decide +kernel
theorem dX2_replayOrders_58 : decode cX2_replayOrders 58 = .ok (.iload_n 2, 1) := by decide +kernel
theorem dX2_replayOrders_59 : decode cX2_replayOrders 59 = .ok (.ireturn, 1) := by decide +kernel
theorem dX2_canReplay_0 : decode cX2_canReplay 0 = .ok (.aload_n 1, 1) := by decide +kernel
theorem dX2_canReplay_1 : decode cX2_canReplay 1 = .ok (.getfield 52, 3) := by decide +kernel
theorem dX2_canReplay_4 : decode cX2_canReplay 4 = .ok (.ifCond .eq 35, 3) := by decide +kernel
theorem dX2_canReplay_7 : decode cX2_canReplay 7 = .ok (.aload_n 0, 1) := by decide +kernel
theorem dX2_canReplay_8 : decode cX2_canReplay 8 = .ok (.getfield 12, 3) := by decide +kernel
theorem dX2_canReplay_11 : decode cX2_canReplay 11 = .ok (.aload_n 1, 1) := by decide +kernel
theorem dX2_canReplay_12 : decode cX2_canReplay 12 = .ok (.getfield 46, 3) := by decide +kernel
theorem dX2_canReplay_15 : decode cX2_canReplay 15 = .ok (.invokevirtual 71, 3) := by decide +kernel
theorem dX2_canReplay_18 : decode cX2_canReplay 18 = .ok (.ifCond .eq 21, 3) := by decide +kernel
theorem dX2_canReplay_21 : decode cX2_canReplay 21 = .ok (.aload_n 0, 1) := by decide +kernel
theorem dX2_canReplay_22 : decode cX2_canReplay 22 = .ok (.getfield 12, 3) := by decide +kernel
theorem dX2_canReplay_25 : decode cX2_canReplay 25 = .ok (.aload_n 1, 1) := by decide +kernel
theorem dX2_canReplay_26 : decode cX2_canReplay 26 = .ok (.getfield 46, 3) := by decide +kernel
theorem dX2_canReplay_29 : decode cX2_canReplay 29 = .ok (.invokevirtual 75, 3) := by decide +kernel
theorem dX2_canReplay_32 : decode cX2_canReplay 32 = .ok (.ifCond .eq 7, 3) := by decide +kernel
theorem dX2_canReplay_35 : decode cX2_canReplay 35 = .ok (.iconst 1, 1) := by decide +kernel
theorem dX2_canReplay_36 : decode cX2_canReplay 36 = .ok (.goto 4, 3) := by decide +kernel
theorem dX2_canReplay_39 : decode cX2_canReplay 39 = .ok (.iconst 0, 1) := by decide +kernel
theorem dX2_canReplay_40 : decode cX2_canReplay 40 = .ok (.ireturn, 1) := by decide +kernel
theorem dX2_takeSnapshot_0 : decode cX2_takeSnapshot 0 = .ok (.aload_n 1, 1) := by decide +kernel
theorem dX2_takeSnapshot_1 : decode cX2_takeSnapshot 1 = .ok (.invokevirtual 78, 3) := by decide +kernel
theorem dX2_takeSnapshot_4 : decode cX2_takeSnapshot 4 = .ok (.aload_n 0, 1) := by decide +kernel
theorem dX2_takeSnapshot_5 : decode cX2_takeSnapshot 5 = .ok (.getfield 12, 3) := by decide +kernel
theorem dX2_takeSnapshot_8 : decode cX2_takeSnapshot 8 = .ok (.getfield 81, 3) := by decide +kernel
theorem dX2_takeSnapshot_11 : decode cX2_takeSnapshot 11 = .ok (.istore_n 2, 1) := by decide +kernel
theorem dX2_takeSnapshot_12 : decode cX2_takeSnapshot 12 = .ok (.aload_n 0, 1) := by decide +kernel
theorem dX2_takeSnapshot_13 : decode cX2_takeSnapshot 13 = .ok (.getfield 12, 3) := by decide +kernel
theorem dX2_takeSnapshot_16 : decode cX2_takeSnapshot 16 = .ok (.aload_n 0, 1) := by decide +kernel
theorem dX2_takeSnapshot_17 : decode cX2_takeSnapshot 17 = .ok (.invokevirtual 84, 3) := by decide +kernel
theorem dX2_takeSnapshot_20 : decode cX2_takeSnapshot 20 = .ok (.getfield 49, 3) := by decide +kernel
theorem dX2_takeSnapshot_23 : decode cX2_takeSnapshot 23 = .ok (.putfield 81, 3) := by decide +kernel
theorem dX2_takeSnapshot_26 : decode cX2_takeSnapshot 26 = .ok (.aload_n 0, 1) := by decide +kernel
theorem dX2_takeSnapshot_27 : decode cX2_takeSnapshot 27 = .ok (.getfield 12, 3) := by decide +kernel
theorem dX2_takeSnapshot_30 : decode cX2_takeSnapshot 30 = .ok (.getfield 81, 3) := by decide +kernel
theorem dX2_takeSnapshot_33 : decode cX2_takeSnapshot 33 = .ok (.iload_n 2, 1) := by decide +kernel
theorem dX2_takeSnapshot_34 : decode cX2_takeSnapshot 34 = .ok (.isub, 1) := by decide +kernel
theorem dX2_takeSnapshot_35 : decode cX2_takeSnapshot 35 = .ok (.ireturn, 1) := by decide +kernel
theorem dX2_repairCopies_0 : decode cX2_repairCopies 0 = .ok (.iconst 0, 1) := by decide +kernel
theorem dX2_repairCopies_1 : decode cX2_repairCopies 1 = .ok (.istore_n 1, 1) := by decide +kernel
theorem dX2_repairCopies_2 : decode cX2_repairCopies 2 = .ok (.aload_n 0, 1) := by decide +kernel
theorem dX2_repairCopies_3 : decode cX2_repairCopies 3 = .ok (.getfield 12, 3) := by decide +kernel
theorem dX2_repairCopies_6 : decode cX2_repairCopies 6 = .ok (.getfield 81, 3) := by decide +kernel
theorem dX2_repairCopies_9 : decode cX2_repairCopies 9 = .ok (.istore_n 2, 1) := by decide +kernel
theorem dX2_repairCopies_10 : decode cX2_repairCopies 10 = .ok (.iload_n 2, 1) := by decide +kernel
theorem dX2_repairCopies_11 : decode cX2_repairCopies 11 = .ok (.aload_n 0, 1) := by decide +kernel
theorem dX2_repairCopies_12 : decode cX2_repairCopies 12 = .ok (.getfield 12, 3) := by decide +kernel
theorem dX2_repairCopies_15 : decode cX2_repairCopies 15 = .ok (.getfield 88, 3) := by decide +kernel
theorem dX2_repairCopies_18 : decode cX2_repairCopies 18 = .ok (.if_icmp .ge 28, 3) := by decide +kernel
theorem dX2_repairCopies_21 : decode cX2_repairCopies 21 = .ok (.aload_n 0, 1) := by decide +kernel
theorem dX2_repairCopies_22 : decode cX2_repairCopies 22 = .ok (.iload_n 2, 1) := by decide +kernel
theorem dX2_repairCopies_23 : decode cX2_repairCopies 23 = .ok (.invokevirtual 91, 3) := by decide +kernel
theorem dX2_repairCopies_26 : decode cX2_repairCopies 26 = .ok (.ifCond .eq 14, 3) := by decide +kernel
theorem dX2_repairCopies_29 : decode cX2_repairCopies 29 = .ok (.iload_n 1, 1) := by decide +kernel
theorem dX2_repairCopies_30 : decode cX2_repairCopies 30 = .ok (.aload_n 0, 1) := by decide +kernel
theorem dX2_repairCopies_31 : decode cX2_repairCopies 31 = .ok (.getfield 12, 3) := by decide +kernel
theorem dX2_repairCopies_34 : decode cX2_repairCopies 34 = .ok (.iload_n 2, 1) := by decide +kernel
theorem dX2_repairCopies_35 : decode cX2_repairCopies 35 = .ok (.invokevirtual 94, 3) := by decide +kernel
theorem dX2_repairCopies_38 : decode cX2_repairCopies 38 = .ok (.iadd, 1) := by decide +kernel
theorem dX2_repairCopies_39 : decode cX2_repairCopies 39 = .ok (.istore_n 1, 1) := by decide +kernel
theorem dX2_repairCopies_40 : decode cX2_repairCopies 40 = .ok (.iinc 2 1, 3) := by decide +kernel
theorem dX2_repairCopies_43 : decode cX2_repairCopies 43 = .ok (.goto (-33), 3) := by decide +kernel
theorem dX2_repairCopies_46 : decode cX2_repairCopies 46 = .ok (.aload_n 0, 1) := by decide +kernel
theorem dX2_repairCopies_47 : decode cX2_repairCopies 47 = .ok (.dup, 1) := by decide +kernel
theorem dX2_repairCopies_48 : decode cX2_repairCopies 48 = .ok (.getfield 35, 3) := by decide +kernel
theorem dX2_repairCopies_51 : decode cX2_repairCopies 51 = .ok (.iload_n 1, 1) := by decide +kernel
theorem dX2_repairCopies_52 : decode cX2_repairCopies 52 = .ok (.iadd, 1) := by decide +kernel
theorem dX2_repairCopies_53 : decode cX2_repairCopies 53 = .ok (.putfield 35, 3) := by decide +kernel
theorem dX2_repairCopies_56 : decode cX2_repairCopies 56 = .ok (.iload_n 1, 1) := by decide +kernel
theorem dX2_repairCopies_57 : decode cX2_repairCopies 57 = .ok (.ireturn, 1) := by decide +kernel
theorem dX2_canRepair_0 : decode cX2_canRepair 0 = .ok (.aload_n 0, 1) := by decide +kernel
theorem dX2_canRepair_1 : decode cX2_canRepair 1 = .ok (.getfield 12, 3) := by decide +kernel
theorem dX2_canRepair_4 : decode cX2_canRepair 4 = .ok (.iload_n 1, 1) := by decide +kernel
theorem dX2_canRepair_5 : decode cX2_canRepair 5 = .ok (.invokevirtual 75, 3) := by decide +kernel
theorem dX2_canRepair_8 : decode cX2_canRepair 8 = .ok (.ifCond .ne 25, 3) := by decide +kernel
theorem dX2_canRepair_11 : decode cX2_canRepair 11 = .ok (.aload_n 0, 1) := by decide +kernel
theorem dX2_canRepair_12 : decode cX2_canRepair 12 = .ok (.getfield 21, 3) := by decide +kernel
theorem dX2_canRepair_15 : decode cX2_canRepair 15 = .ok (.iload_n 1, 1) := by decide +kernel
theorem dX2_canRepair_16 : decode cX2_canRepair 16 = .ok (.invokestatic 98, 3) := by decide +kernel
theorem dX2_canRepair_19 : decode cX2_canRepair 19 = .ok (.ifCond .ne 14, 3) := by decide +kernel
theorem dX2_canRepair_22 : decode cX2_canRepair 22 = .ok (.aload_n 0, 1) := by decide +kernel
theorem dX2_canRepair_23 : decode cX2_canRepair 23 = .ok (.getfield 25, 3) := by decide +kernel
theorem dX2_canRepair_26 : decode cX2_canRepair 26 = .ok (.iload_n 1, 1) := by decide +kernel
theorem dX2_canRepair_27 : decode cX2_canRepair 27 = .ok (.invokestatic 98, 3) := by decide +kernel
theorem dX2_canRepair_30 : decode cX2_canRepair 30 = .ok (.ifCond .eq 7, 3) := by decide +kernel
theorem dX2_canRepair_33 : decode cX2_canRepair 33 = .ok (.iconst 1, 1) := by decide +kernel
theorem dX2_canRepair_34 : decode cX2_canRepair 34 = .ok (.goto 4, 3) := by decide +kernel
theorem dX2_canRepair_37 : decode cX2_canRepair 37 = .ok (.iconst 0, 1) := by decide +kernel
theorem dX2_canRepair_38 : decode cX2_canRepair 38 = .ok (.ireturn, 1) := by decide +kernel
theorem dX2_knowsOrder_0 : decode cX2_knowsOrder 0 = .ok (.aload_n 0, 1) := by decide +kernel
theorem dX2_knowsOrder_1 : decode cX2_knowsOrder 1 = .ok (.getfield 52, 3) := by decide +kernel
theorem dX2_knowsOrder_4 : decode cX2_knowsOrder 4 = .ok (.ifCond .eq 15, 3) := by decide +kernel
theorem dX2_knowsOrder_7 : decode cX2_knowsOrder 7 = .ok (.aload_n 0, 1) := by decide +kernel
theorem dX2_knowsOrder_8 : decode cX2_knowsOrder 8 = .ok (.getfield 46, 3) := by decide +kernel
theorem dX2_knowsOrder_11 : decode cX2_knowsOrder 11 = .ok (.iload_n 1, 1) := by decide +kernel
theorem dX2_knowsOrder_12 : decode cX2_knowsOrder 12 = .ok (.if_icmp .le 7, 3) := by decide +kernel
theorem dX2_knowsOrder_15 : decode cX2_knowsOrder 15 = .ok (.iconst 1, 1) := by decide +kernel
theorem dX2_knowsOrder_16 : decode cX2_knowsOrder 16 = .ok (.goto 4, 3) := by decide +kernel
theorem dX2_knowsOrder_19 : decode cX2_knowsOrder 19 = .ok (.iconst 0, 1) := by decide +kernel
theorem dX2_knowsOrder_20 : decode cX2_knowsOrder 20 = .ok (.ireturn, 1) := by decide +kernel
theorem dX3_init_0 : decode cX3_init 0 = .ok (.aload_n 0, 1) := by decide +kernel
theorem dX3_init_1 : decode cX3_init 1 = .ok (.invokespecial 3, 3) := by decide +kernel
theorem dX3_init_4 : decode cX3_init 4 = .ok (.aload_n 0, 1) := by decide +kernel
theorem dX3_init_5 : decode cX3_init 5 = .ok (.iconst 0, 1) := by decide +kernel
theorem dX3_init_6 : decode cX3_init 6 = .ok (.putfield 9, 3) := by decide +kernel
theorem dX3_init_9 : decode cX3_init 9 = .ok (.aload_n 0, 1) := by decide +kernel
theorem dX3_init_10 : decode cX3_init 10 = .ok (.bipush 100, 2) := by decide +kernel
theorem dX3_init_12 : decode cX3_init 12 = .ok (.newarray .byte, 2) := by decide +kernel
theorem dX3_init_14 : decode cX3_init 14 = .ok (.putfield 15, 3) := by decide +kernel
theorem dX3_init_17 : decode cX3_init 17 = .ok (.aload_n 0, 1) := by decide +kernel
theorem dX3_init_18 : decode cX3_init 18 = .ok (.iconst 0, 1) := by decide +kernel
theorem dX3_init_19 : decode cX3_init 19 = .ok (.putfield 19, 3) := by decide +kernel
theorem dX3_init_22 : decode cX3_init 22 = .ok (.aload_n 0, 1) := by decide +kernel
theorem dX3_init_23 : decode cX3_init 23 = .ok (.iconst (-1), 1) := by decide +kernel
theorem dX3_init_24 : decode cX3_init 24 = .ok (.putfield 22, 3) := by decide +kernel
theorem dX3_init_27 : decode cX3_init 27 = .ok (.aload_n 0, 1) := by decide +kernel
theorem dX3_init_28 : decode cX3_init 28 = .ok (.iconst 0, 1) := by decide +kernel
theorem dX3_init_29 : decode cX3_init 29 = .ok (.putfield 25, 3) := by decide +kernel
theorem dX3_init_32 : decode cX3_init 32 = .ok (.aload_n 0, 1) := by decide +kernel
theorem dX3_init_33 : decode cX3_init 33 = .ok (.iconst 0, 1) := by decide +kernel
theorem dX3_init_34 : decode cX3_init 34 = .ok (.putfield 28, 3) := by decide +kernel
theorem dX3_init_37 : decode cX3_init 37 = .ok (.aload_n 0, 1) := by decide +kernel
theorem dX3_init_38 : decode cX3_init 38 = .ok (.iconst 0, 1) := by decide +kernel
theorem dX3_init_39 : decode cX3_init 39 = .ok (.putfield 31, 3) := by decide +kernel
theorem dX3_init_42 : decode cX3_init 42 = .ok (.return_, 1) := by decide +kernel
theorem dX3_isFull_0 : decode cX3_isFull 0 = .ok (.aload_n 0, 1) := by decide +kernel
theorem dX3_isFull_1 : decode cX3_isFull 1 = .ok (.getfield 9, 3) := by decide +kernel
theorem dX3_isFull_4 : decode cX3_isFull 4 = .ok (.bipush 100, 2) := by decide +kernel
theorem dX3_isFull_6 : decode cX3_isFull 6 = .ok (.if_icmp .lt 7, 3) := by decide +kernel
theorem dX3_isFull_9 : decode cX3_isFull 9 = .ok (.iconst 1, 1) := by decide +kernel
theorem dX3_isFull_10 : decode cX3_isFull 10 = .ok (.goto 4, 3) := by decide +kernel
theorem dX3_isFull_13 : decode cX3_isFull 13 = .ok (.iconst 0, 1) := by decide +kernel
theorem dX3_isFull_14 : decode cX3_isFull 14 = .ok (.ireturn, 1) := by decide +kernel
