/-! what stands at each place of the code, printed -/
theorem dX5_agrees_0 : decode cX5_agrees 0 = .ok (.aload_n 0, 1) := by decide +kernel
theorem dX5_agrees_1 : decode cX5_agrees 1 = .ok (.iconst 1, 1) := by decide +kernel
theorem dX5_agrees_2 : decode cX5_agrees 2 = .ok (.iconst 0, 1) := by decide +kernel
theorem dX5_agrees_3 : decode cX5_agrees 3 = .ok (.invokevirtual 57, 3) := by decide +kernel
theorem dX5_agrees_6 : decode cX5_agrees 6 = .ok (.aload_n 0, 1) := by decide +kernel
theorem dX5_agrees_7 : decode cX5_agrees 7 = .ok (.iconst 0, 1) := by decide +kernel
theorem dX5_agrees_8 : decode cX5_agrees 8 = .ok (.iconst 0, 1) := by decide +kernel
theorem dX5_agrees_9 : decode cX5_agrees 9 = .ok (.invokevirtual 57, 3) := by decide +kernel
theorem dX5_agrees_12 : decode cX5_agrees 12 = .ok (.if_icmp .ge 7, 3) := by decide +kernel
theorem dX5_agrees_15 : decode cX5_agrees 15 = .ok (.iconst 1, 1) := by decide +kernel
theorem dX5_agrees_16 : decode cX5_agrees 16 = .ok (.goto 4, 3) := by decide +kernel
theorem dX5_agrees_19 : decode cX5_agrees 19 = .ok (.iconst 0, 1) := by decide +kernel
theorem dX5_agrees_20 : decode cX5_agrees 20 = .ok (.istore_n 1, 1) := by decide +kernel
theorem dX5_agrees_21 : decode cX5_agrees 21 = .ok (.aload_n 0, 1) := by decide +kernel
theorem dX5_agrees_22 : decode cX5_agrees 22 = .ok (.iload_n 1, 1) := by decide +kernel
theorem dX5_agrees_23 : decode cX5_agrees 23 = .ok (.iconst 5, 1) := by decide +kernel
theorem dX5_agrees_24 : decode cX5_agrees 24 = .ok (.invokevirtual 135, 3) := by decide +kernel
theorem dX5_agrees_27 : decode cX5_agrees 27 = .ok (.aload_n 0, 1) := by decide +kernel
theorem dX5_agrees_28 : decode cX5_agrees 28 = .ok (.aload_n 0, 1) := by decide +kernel
theorem dX5_agrees_29 : decode cX5_agrees 29 = .ok (.iload_n 1, 1) := by decide +kernel
theorem dX5_agrees_30 : decode cX5_agrees 30 = .ok (.iconst 0, 1) := by decide +kernel
theorem dX5_agrees_31 : decode cX5_agrees 31 = .ok (.invokevirtual 57, 3) := by decide +kernel
theorem dX5_agrees_34 : decode cX5_agrees 34 = .ok (.aload_n 0, 1) := by decide +kernel
theorem dX5_agrees_35 : decode cX5_agrees 35 = .ok (.iconst 1, 1) := by decide +kernel
theorem dX5_agrees_36 : decode cX5_agrees 36 = .ok (.iload_n 1, 1) := by decide +kernel
theorem dX5_agrees_37 : decode cX5_agrees 37 = .ok (.isub, 1) := by decide +kernel
theorem dX5_agrees_38 : decode cX5_agrees 38 = .ok (.iconst 0, 1) := by decide +kernel
theorem dX5_agrees_39 : decode cX5_agrees 39 = .ok (.invokevirtual 57, 3) := by decide +kernel
theorem dX5_agrees_42 : decode cX5_agrees 42 = .ok (.invokevirtual 139, 3) := by decide +kernel
theorem dX5_agrees_45 : decode cX5_agrees 45 = .ok (.ifCond .ne 5, 3) := by decide +kernel
theorem dX5_agrees_48 : decode cX5_agrees 48 = .ok (.iconst (-1), 1) := by decide +kernel
theorem dX5_agrees_49 : decode cX5_agrees 49 = .ok (.ireturn, 1) := by decide +kernel
theorem dX5_agrees_50 : decode cX5_agrees 50 = .ok (.iconst 0, 1) := by decide +kernel
theorem dX5_agrees_51 : decode cX5_agrees 51 = .ok (.istore_n 2, 1) := by decide +kernel
theorem dX5_agrees_52 : decode cX5_agrees 52 = .ok (.iload_n 2, 1) := by decide +kernel
theorem dX5_agrees_53 : decode cX5_agrees 53 = .ok (.bipush 8, 2) := by decide +kernel
theorem dX5_agrees_55 : decode cX5_agrees 55 = .ok (.if_icmp .ge 30, 3) := by decide +kernel
theorem dX5_agrees_58 : decode cX5_agrees 58 = .ok (.aload_n 0, 1) := by decide +kernel
theorem dX5_agrees_59 : decode cX5_agrees 59 = .ok (.getfield 22, 3) := by decide +kernel
theorem dX5_agrees_62 : decode cX5_agrees 62 = .ok (.iload_n 2, 1) := by decide +kernel
theorem dX5_agrees_63 : decode cX5_agrees 63 = .ok (.iaload, 1) := by decide +kernel
theorem dX5_agrees_64 : decode cX5_agrees 64 = .ok (.aload_n 0, 1) := by decide +kernel
theorem dX5_agrees_65 : decode cX5_agrees 65 = .ok (.iconst 1, 1) := by decide +kernel
theorem dX5_agrees_66 : decode cX5_agrees 66 = .ok (.iload_n 1, 1) := by decide +kernel
theorem dX5_agrees_67 : decode cX5_agrees 67 = .ok (.isub, 1) := by decide +kernel
theorem dX5_agrees_68 : decode cX5_agrees 68 = .ok (.iconst 5, 1) := by decide +kernel
theorem dX5_agrees_69 : decode cX5_agrees 69 = .ok (.iload_n 2, 1) := by decide +kernel
theorem dX5_agrees_70 : decode cX5_agrees 70 = .ok (.iadd, 1) := by decide +kernel
theorem dX5_agrees_71 : decode cX5_agrees 71 = .ok (.invokevirtual 57, 3) := by decide +kernel
theorem dX5_agrees_74 : decode cX5_agrees 74 = .ok (.if_icmp .eq 5, 3) := by decide +kernel
theorem dX5_agrees_77 : decode cX5_agrees 77 = .ok (.iconst 0, 1) := by decide +kernel
theorem dX5_agrees_78 : decode cX5_agrees 78 = .ok (.ireturn, 1) := by decide +kernel
theorem dX5_agrees_79 : decode cX5_agrees 79 = .ok (.iinc 2 1, 3) := by decide +kernel
theorem dX5_agrees_82 : decode cX5_agrees 82 = .ok (.goto (-30), 3) := by decide +kernel
theorem dX5_agrees_85 : decode cX5_agrees 85 = .ok (.iconst 1, 1) := by decide +kernel
theorem dX5_agrees_86 : decode cX5_agrees 86 = .ok (.ireturn, 1) := by decide +kernel
theorem dX5_agree_0 : decode cX5_agree 0 = .ok (.aload_n 0, 1) := by decide +kernel
theorem dX5_agree_1 : decode cX5_agree 1 = .ok (.aload_n 0, 1) := by decide +kernel
theorem dX5_agree_2 : decode cX5_agree 2 = .ok (.invokevirtual 146, 3) := by decide +kernel
theorem dX5_agree_5 : decode cX5_agree 5 = .ok (.invokevirtual 54, 3) := by decide +kernel
theorem dX5_agree_8 : decode cX5_agree 8 = .ok (.ireturn, 1) := by decide +kernel
theorem dX5_roomBy_0 : decode cX5_roomBy 0 = .ok (.iload_n 1, 1) := by decide +kernel
theorem dX5_roomBy_1 : decode cX5_roomBy 1 = .ok (.invokestatic 75, 3) := by decide +kernel
theorem dX5_roomBy_4 : decode cX5_roomBy 4 = .ok (.ifCond .ne 9, 3) := by decide +kernel
theorem dX5_roomBy_7 : decode cX5_roomBy 7 = .ok (.aload_n 0, 1) := by decide +kernel
theorem dX5_roomBy_8 : decode cX5_roomBy 8 = .ok (.iconst 1, 1) := by decide +kernel
theorem dX5_roomBy_9 : decode cX5_roomBy 9 = .ok (.invokevirtual 44, 3) := by decide +kernel
theorem dX5_roomBy_12 : decode cX5_roomBy 12 = .ok (.ireturn, 1) := by decide +kernel
theorem dX5_roomBy_13 : decode cX5_roomBy 13 = .ok (.aload_n 0, 1) := by decide +kernel
theorem dX5_roomBy_14 : decode cX5_roomBy 14 = .ok (.iconst 1, 1) := by decide +kernel
theorem dX5_roomBy_15 : decode cX5_roomBy 15 = .ok (.iload_n 1, 1) := by decide +kernel
theorem dX5_roomBy_16 : decode cX5_roomBy 16 = .ok (.isub, 1) := by decide +kernel
theorem dX5_roomBy_17 : decode cX5_roomBy 17 = .ok (.iconst 4, 1) := by decide +kernel
theorem dX5_roomBy_18 : decode cX5_roomBy 18 = .ok (.invokevirtual 57, 3) := by decide +kernel
theorem dX5_roomBy_21 : decode cX5_roomBy 21 = .ok (.istore_n 2, 1) := by decide +kernel
theorem dX5_roomBy_22 : decode cX5_roomBy 22 = .ok (.aload_n 0, 1) := by decide +kernel
theorem dX5_roomBy_23 : decode cX5_roomBy 23 = .ok (.iload_n 1, 1) := by decide +kernel
theorem dX5_roomBy_24 : decode cX5_roomBy 24 = .ok (.iconst 0, 1) := by decide +kernel
theorem dX5_roomBy_25 : decode cX5_roomBy 25 = .ok (.invokevirtual 57, 3) := by decide +kernel
theorem dX5_roomBy_28 : decode cX5_roomBy 28 = .ok (.iload_n 2, 1) := by decide +kernel
theorem dX5_roomBy_29 : decode cX5_roomBy 29 = .ok (.if_icmp .ge 12, 3) := by decide +kernel
theorem dX5_roomBy_32 : decode cX5_roomBy 32 = .ok (.aload_n 0, 1) := by decide +kernel
theorem dX5_roomBy_33 : decode cX5_roomBy 33 = .ok (.iload_n 1, 1) := by decide +kernel
theorem dX5_roomBy_34 : decode cX5_roomBy 34 = .ok (.iconst 0, 1) := by decide +kernel
theorem dX5_roomBy_35 : decode cX5_roomBy 35 = .ok (.invokevirtual 57, 3) := by decide +kernel
theorem dX5_roomBy_38 : decode cX5_roomBy 38 = .ok (.goto 4, 3) := by decide +kernel
theorem dX5_roomBy_41 : decode cX5_roomBy 41 = .ok (.iload_n 2, 1) := by decide +kernel
theorem dX5_roomBy_42 : decode cX5_roomBy 42 = .ok (.istore_n 3, 1) := by decide +kernel
theorem dX5_roomBy_43 : decode cX5_roomBy 43 = .ok (.aload_n 0, 1) := by decide +kernel
theorem dX5_roomBy_44 : decode cX5_roomBy 44 = .ok (.aload_n 0, 1) := by decide +kernel
theorem dX5_roomBy_45 : decode cX5_roomBy 45 = .ok (.getfield 7, 3) := by decide +kernel
theorem dX5_roomBy_48 : decode cX5_roomBy 48 = .ok (.iconst 0, 1) := by decide +kernel
theorem dX5_roomBy_49 : decode cX5_roomBy 49 = .ok (.iaload, 1) := by decide +kernel
theorem dX5_roomBy_50 : decode cX5_roomBy 50 = .ok (.aload_n 0, 1) := by decide +kernel
theorem dX5_roomBy_51 : decode cX5_roomBy 51 = .ok (.getfield 7, 3) := by decide +kernel
theorem dX5_roomBy_54 : decode cX5_roomBy 54 = .ok (.iconst 2, 1) := by decide +kernel
theorem dX5_roomBy_55 : decode cX5_roomBy 55 = .ok (.iaload, 1) := by decide +kernel
theorem dX5_roomBy_56 : decode cX5_roomBy 56 = .ok (.iload_n 3, 1) := by decide +kernel
theorem dX5_roomBy_57 : decode cX5_roomBy 57 = .ok (.isub, 1) := by decide +kernel
theorem dX5_roomBy_58 : decode cX5_roomBy 58 = .ok (.isub, 1) := by decide +kernel
theorem dX5_roomBy_59 : decode cX5_roomBy 59 = .ok (.invokevirtual 54, 3) := by decide +kernel
theorem dX5_roomBy_62 : decode cX5_roomBy 62 = .ok (.ireturn, 1) := by decide +kernel
theorem dX5_slower_0 : decode cX5_slower 0 = .ok (.aload_n 0, 1) := by decide +kernel
theorem dX5_slower_1 : decode cX5_slower 1 = .ok (.aload_n 0, 1) := by decide +kernel
theorem dX5_slower_2 : decode cX5_slower 2 = .ok (.invokevirtual 132, 3) := by decide +kernel
theorem dX5_slower_5 : decode cX5_slower 5 = .ok (.invokevirtual 54, 3) := by decide +kernel
theorem dX5_slower_8 : decode cX5_slower 8 = .ok (.ireturn, 1) := by decide +kernel
theorem dX5_fullness_0 : decode cX5_fullness 0 = .ok (.aload_n 0, 1) := by decide +kernel
theorem dX5_fullness_1 : decode cX5_fullness 1 = .ok (.iconst 0, 1) := by decide +kernel
theorem dX5_fullness_2 : decode cX5_fullness 2 = .ok (.putfield 29, 3) := by decide +kernel
theorem dX5_fullness_5 : decode cX5_fullness 5 = .ok (.aload_n 0, 1) := by decide +kernel
theorem dX5_fullness_6 : decode cX5_fullness 6 = .ok (.invokevirtual 67, 3) := by decide +kernel
theorem dX5_fullness_9 : decode cX5_fullness 9 = .ok (.i2d, 1) := by decide +kernel
theorem dX5_fullness_10 : decode cX5_fullness 10 = .ok (.aload_n 0, 1) := by decide +kernel
theorem dX5_fullness_11 : decode cX5_fullness 11 = .ok (.getfield 7, 3) := by decide +kernel
theorem dX5_fullness_14 : decode cX5_fullness 14 = .ok (.iconst 0, 1) := by decide +kernel
theorem dX5_fullness_15 : decode cX5_fullness 15 = .ok (.iaload, 1) := by decide +kernel
theorem dX5_fullness_16 : decode cX5_fullness 16 = .ok (.i2d, 1) := by decide +kernel
theorem dX5_fullness_17 : decode cX5_fullness 17 = .ok (.ddiv, 1) := by decide +kernel
theorem dX5_fullness_18 : decode cX5_fullness 18 = .ok (.dreturn, 1) := by decide +kernel
theorem dX5_append_0 : decode cX5_append 0 = .ok (.iload_n 1, 1) := by decide +kernel
theorem dX5_append_1 : decode cX5_append 1 = .ok (.iconst 0, 1) := by decide +kernel
theorem dX5_append_2 : decode cX5_append 2 = .ok (.bipush 127, 2) := by decide +kernel
theorem dX5_append_4 : decode cX5_append 4 = .ok (.invokestatic 33, 3) := by decide +kernel
theorem dX5_append_7 : decode cX5_append 7 = .ok (.ifCond .ne 9, 3) := by decide +kernel
theorem dX5_append_10 : decode cX5_append 10 = .ok (.aload_n 0, 1) := by decide +kernel
theorem dX5_append_11 : decode cX5_append 11 = .ok (.iconst 1, 1) := by decide +kernel
theorem dX5_append_12 : decode cX5_append 12 = .ok (.invokevirtual 44, 3) := by decide +kernel
theorem dX5_append_15 : decode cX5_append 15 = .ok (.ireturn, 1) := by decide +kernel
theorem dX5_append_16 : decode cX5_append 16 = .ok (.aload_n 0, 1) := by decide +kernel
theorem dX5_append_17 : decode cX5_append 17 = .ok (.getfield 149, 3) := by decide +kernel
theorem dX5_append_20 : decode cX5_append 20 = .ok (.bipush 100, 2) := by decide +kernel
theorem dX5_append_22 : decode cX5_append 22 = .ok (.if_icmp .ne 9, 3) := by decide +kernel
theorem dX5_append_25 : decode cX5_append 25 = .ok (.aload_n 0, 1) := by decide +kernel
theorem dX5_append_26 : decode cX5_append 26 = .ok (.iconst 2, 1) := by decide +kernel
theorem dX5_append_27 : decode cX5_append 27 = .ok (.invokevirtual 44, 3) := by decide +kernel
theorem dX5_append_30 : decode cX5_append 30 = .ok (.ireturn, 1) := by decide +kernel
theorem dX5_append_31 : decode cX5_append 31 = .ok (.aload_n 0, 1) := by decide +kernel
theorem dX5_append_32 : decode cX5_append 32 = .ok (.getfield 19, 3) := by decide +kernel
theorem dX5_append_35 : decode cX5_append 35 = .ok (.aload_n 0, 1) := by decide +kernel
theorem dX5_append_36 : decode cX5_append 36 = .ok (.getfield 149, 3) := by decide +kernel
theorem dX5_append_39 : decode cX5_append 39 = .ok (.iload_n 1, 1) := by decide +kernel
theorem dX5_append_40 : decode cX5_append 40 = .ok (.iastore, 1) := by decide +kernel
theorem dX5_append_41 : decode cX5_append 41 = .ok (.aload_n 0, 1) := by decide +kernel
theorem dX5_append_42 : decode cX5_append 42 = .ok (.dup, 1) := by decide +kernel
theorem dX5_append_43 : decode cX5_append 43 = .ok (.getfield 149, 3) := by decide +kernel
theorem dX5_append_46 : decode cX5_append 46 = .ok (.iconst 1, 1) := by decide +kernel
theorem dX5_append_47 : decode cX5_append 47 = .ok (.iadd, 1) := by decide +kernel
theorem dX5_append_48 : decode cX5_append 48 = .ok (.putfield 149, 3) := by decide +kernel
theorem dX5_append_51 : decode cX5_append 51 = .ok (.aload_n 0, 1) := by decide +kernel
theorem dX5_append_52 : decode cX5_append 52 = .ok (.aload_n 0, 1) := by decide +kernel
theorem dX5_append_53 : decode cX5_append 53 = .ok (.getfield 149, 3) := by decide +kernel
theorem dX5_append_56 : decode cX5_append 56 = .ok (.invokevirtual 54, 3) := by decide +kernel
theorem dX5_append_59 : decode cX5_append 59 = .ok (.ireturn, 1) := by decide +kernel
theorem dX5_clearText_0 : decode cX5_clearText 0 = .ok (.aload_n 0, 1) := by decide +kernel
theorem dX5_clearText_1 : decode cX5_clearText 1 = .ok (.getfield 149, 3) := by decide +kernel
theorem dX5_clearText_4 : decode cX5_clearText 4 = .ok (.istore_n 1, 1) := by decide +kernel
theorem dX5_clearText_5 : decode cX5_clearText 5 = .ok (.aload_n 0, 1) := by decide +kernel
theorem dX5_clearText_6 : decode cX5_clearText 6 = .ok (.iconst 0, 1) := by decide +kernel
theorem dX5_clearText_7 : decode cX5_clearText 7 = .ok (.putfield 149, 3) := by decide +kernel
theorem dX5_clearText_10 : decode cX5_clearText 10 = .ok (.aload_n 0, 1) := by decide +kernel
theorem dX5_clearText_11 : decode cX5_clearText 11 = .ok (.iload_n 1, 1) := by decide +kernel
theorem dX5_clearText_12 : decode cX5_clearText 12 = .ok (.invokevirtual 54, 3) := by decide +kernel
theorem dX5_clearText_15 : decode cX5_clearText 15 = .ok (.ireturn, 1) := by decide +kernel
theorem dX5_here_0 : decode cX5_here 0 = .ok (.aload_n 0, 1) := by decide +kernel
theorem dX5_here_1 : decode cX5_here 1 = .ok (.getfield 152, 3) := by decide +kernel
theorem dX5_here_4 : decode cX5_here 4 = .ok (.aload_n 0, 1) := by decide +kernel
theorem dX5_here_5 : decode cX5_here 5 = .ok (.getfield 149, 3) := by decide +kernel
theorem dX5_here_8 : decode cX5_here 8 = .ok (.if_icmp .ge 15, 3) := by decide +kernel
theorem dX5_here_11 : decode cX5_here 11 = .ok (.aload_n 0, 1) := by decide +kernel
theorem dX5_here_12 : decode cX5_here 12 = .ok (.getfield 19, 3) := by decide +kernel
theorem dX5_here_15 : decode cX5_here 15 = .ok (.aload_n 0, 1) := by decide +kernel
theorem dX5_here_16 : decode cX5_here 16 = .ok (.getfield 152, 3) := by decide +kernel
theorem dX5_here_19 : decode cX5_here 19 = .ok (.iaload, 1) := by decide +kernel
theorem dX5_here_20 : decode cX5_here 20 = .ok (.goto 4, 3) := by decide +kernel
theorem dX5_here_23 : decode cX5_here 23 = .ok (.iconst (-1), 1) := by decide +kernel
theorem dX5_here_24 : decode cX5_here 24 = .ok (.ireturn, 1) := by decide +kernel
theorem dX5_wrong_0 : decode cX5_wrong 0 = .ok (.aload_n 0, 1) := by decide +kernel
theorem dX5_wrong_1 : decode cX5_wrong 1 = .ok (.aload_n 0, 1) := by decide +kernel
theorem dX5_wrong_2 : decode cX5_wrong 2 = .ok (.getfield 155, 3) := by decide +kernel
theorem dX5_wrong_5 : decode cX5_wrong 5 = .ok (.iconst (-1), 1) := by decide +kernel
theorem dX5_wrong_6 : decode cX5_wrong 6 = .ok (.if_icmp .ne 7, 3) := by decide +kernel
theorem dX5_wrong_9 : decode cX5_wrong 9 = .ok (.iload_n 1, 1) := by decide +kernel
theorem dX5_wrong_10 : decode cX5_wrong 10 = .ok (.goto 7, 3) := by decide +kernel
theorem dX5_wrong_13 : decode cX5_wrong 13 = .ok (.aload_n 0, 1) := by decide +kernel
theorem dX5_wrong_14 : decode cX5_wrong 14 = .ok (.getfield 155, 3) := by decide +kernel
theorem dX5_wrong_17 : decode cX5_wrong 17 = .ok (.putfield 155, 3) := by decide +kernel
theorem dX5_wrong_20 : decode cX5_wrong 20 = .ok (.return_, 1) := by decide +kernel
theorem dX5_sign_0 : decode cX5_sign 0 = .ok (.aload_n 0, 1) := by decide +kernel
theorem dX5_sign_1 : decode cX5_sign 1 = .ok (.invokevirtual 158, 3) := by decide +kernel
theorem dX5_sign_4 : decode cX5_sign 4 = .ok (.iload_n 1, 1) := by decide +kernel
theorem dX5_sign_5 : decode cX5_sign 5 = .ok (.if_icmp .eq 11, 3) := by decide +kernel
theorem dX5_sign_8 : decode cX5_sign 8 = .ok (.aload_n 0, 1) := by decide +kernel
theorem dX5_sign_9 : decode cX5_sign 9 = .ok (.aload_n 0, 1) := by decide +kernel
theorem dX5_sign_10 : decode cX5_sign 10 = .ok (.getfield 152, 3) := by decide +kernel
theorem dX5_sign_13 : decode cX5_sign 13 = .ok (.invokevirtual 161, 3) := by decide +kernel
theorem dX5_sign_16 : decode cX5_sign 16 = .ok (.aload_n 0, 1) := by decide +kernel
theorem dX5_sign_17 : decode cX5_sign 17 = .ok (.dup, 1) := by decide +kernel
theorem dX5_sign_18 : decode cX5_sign 18 = .ok (.getfield 152, 3) := by decide +kernel
theorem dX5_sign_21 : decode cX5_sign 21 = .ok (.iconst 1, 1) := by decide +kernel
theorem dX5_sign_22 : decode cX5_sign 22 = .ok (.iadd, 1) := by decide +kernel
theorem dX5_sign_23 : decode cX5_sign 23 = .ok (.putfield 152, 3) := by decide +kernel
theorem dX5_sign_26 : decode cX5_sign 26 = .ok (.return_, 1) := by decide +kernel
theorem dX5_digit_0 : decode cX5_digit 0 = .ok (.aload_n 0, 1) := by decide +kernel
theorem dX5_digit_1 : decode cX5_digit 1 = .ok (.invokevirtual 158, 3) := by decide +kernel
theorem dX5_digit_4 : decode cX5_digit 4 = .ok (.bipush 48, 2) := by decide +kernel
theorem dX5_digit_6 : decode cX5_digit 6 = .ok (.isub, 1) := by decide +kernel
theorem dX5_digit_7 : decode cX5_digit 7 = .ok (.istore_n 2, 1) := by decide +kernel
theorem dX5_digit_8 : decode cX5_digit 8 = .ok (.iload_n 2, 1) := by decide +kernel
theorem dX5_digit_9 : decode cX5_digit 9 = .ok (.iconst 0, 1) := by decide +kernel
theorem dX5_digit_10 : decode cX5_digit 10 = .ok (.iload_n 1, 1) := by decide +kernel
theorem dX5_digit_11 : decode cX5_digit 11 = .ok (.invokestatic 33, 3) := by decide +kernel
theorem dX5_digit_14 : decode cX5_digit 14 = .ok (.ifCond .ne 11, 3) := by decide +kernel
theorem dX5_digit_17 : decode cX5_digit 17 = .ok (.aload_n 0, 1) := by decide +kernel
theorem dX5_digit_18 : decode cX5_digit 18 = .ok (.aload_n 0, 1) := by decide +kernel
theorem dX5_digit_19 : decode cX5_digit 19 = .ok (.getfield 152, 3) := by decide +kernel
theorem dX5_digit_22 : decode cX5_digit 22 = .ok (.invokevirtual 161, 3) := by decide +kernel
theorem dX5_digit_25 : decode cX5_digit 25 = .ok (.aload_n 0, 1) := by decide +kernel
theorem dX5_digit_26 : decode cX5_digit 26 = .ok (.dup, 1) := by decide +kernel
theorem dX5_digit_27 : decode cX5_digit 27 = .ok (.getfield 152, 3) := by decide +kernel
theorem dX5_digit_30 : decode cX5_digit 30 = .ok (.iconst 1, 1) := by decide +kernel
theorem dX5_digit_31 : decode cX5_digit 31 = .ok (.iadd, 1) := by decide +kernel
theorem dX5_digit_32 : decode cX5_digit 32 = .ok (.putfield 152, 3) := by decide +kernel
theorem dX5_digit_35 : decode cX5_digit 35 = .ok (.iload_n 2, 1) := by decide +kernel
theorem dX5_digit_36 : decode cX5_digit 36 = .ok (.ireturn, 1) := by decide +kernel
theorem dX5_isDigit_0 : decode cX5_isDigit 0 = .ok (.iload_n 0, 1) := by decide +kernel
theorem dX5_isDigit_1 : decode cX5_isDigit 1 = .ok (.bipush 48, 2) := by decide +kernel
theorem dX5_isDigit_3 : decode cX5_isDigit 3 = .ok (.bipush 57, 2) := by decide +kernel
theorem dX5_isDigit_5 : decode cX5_isDigit 5 = .ok (.invokestatic 33, 3) := by decide +kernel
theorem dX5_isDigit_8 : decode cX5_isDigit 8 = .ok (.ireturn, 1) := by decide +kernel
theorem dX5_readAmount_0 : decode cX5_readAmount 0 = .ok (.aload_n 0, 1) := by decide +kernel
theorem dX5_readAmount_1 : decode cX5_readAmount 1 = .ok (.getfield 152, 3) := by decide +kernel
theorem dX5_readAmount_4 : decode cX5_readAmount 4 = .ok (.istore_n 1, 1) := by decide +kernel
theorem dX5_readAmount_5 : decode cX5_readAmount 5 = .ok (.aload_n 0, 1) := by decide +kernel
theorem dX5_readAmount_6 : decode cX5_readAmount 6 = .ok (.invokevirtual 158, 3) := by decide +kernel
theorem dX5_readAmount_9 : decode cX5_readAmount 9 = .ok (.invokestatic 164, 3) := by decide +kernel
theorem dX5_readAmount_12 : decode cX5_readAmount 12 = .ok (.ifCond .ne 11, 3) := by decide +kernel
theorem dX5_readAmount_15 : decode cX5_readAmount 15 = .ok (.aload_n 0, 1) := by decide +kernel
theorem dX5_readAmount_16 : decode cX5_readAmount 16 = .ok (.aload_n 0, 1) := by decide +kernel
theorem dX5_readAmount_17 : decode cX5_readAmount 17 = .ok (.getfield 152, 3) := by decide +kernel
theorem dX5_readAmount_20 : decode cX5_readAmount 20 = .ok (.invokevirtual 161, 3) := by decide +kernel
theorem dX5_readAmount_23 : decode cX5_readAmount 23 = .ok (.iconst 0, 1) := by decide +kernel
theorem dX5_readAmount_24 : decode cX5_readAmount 24 = .ok (.istore_n 2, 1) := by decide +kernel
theorem dX5_readAmount_25 : decode cX5_readAmount 25 = .ok (.aload_n 0, 1) := by decide +kernel
theorem dX5_readAmount_26 : decode cX5_readAmount 26 = .ok (.invokevirtual 158, 3) := by decide +kernel
theorem dX5_readAmount_29 : decode cX5_readAmount 29 = .ok (.invokestatic 164, 3) := by decide +kernel
theorem dX5_readAmount_32 : decode cX5_readAmount 32 = .ok (.ifCond .eq 39, 3) := by decide +kernel
theorem dX5_readAmount_35 : decode cX5_readAmount 35 = .ok (.aload_n 0, 1) := by decide +kernel
theorem dX5_readAmount_36 : decode cX5_readAmount 36 = .ok (.getfield 152, 3) := by decide +kernel
theorem dX5_readAmount_39 : decode cX5_readAmount 39 = .ok (.iload_n 1, 1) := by decide +kernel
theorem dX5_readAmount_40 : decode cX5_readAmount 40 = .ok (.isub, 1) := by decide +kernel
theorem dX5_readAmount_41 : decode cX5_readAmount 41 = .ok (.iconst 2, 1) := by decide +kernel
theorem dX5_readAmount_42 : decode cX5_readAmount 42 = .ok (.if_icmp .ge 29, 3) := by decide +kernel
theorem dX5_readAmount_45 : decode cX5_readAmount 45 = .ok (.bipush 10, 2) := by decide +kernel
theorem dX5_readAmount_47 : decode cX5_readAmount 47 = .ok (.iload_n 2, 1) := by decide +kernel
theorem dX5_readAmount_48 : decode cX5_readAmount 48 = .ok (.imul, 1) := by decide +kernel
theorem dX5_readAmount_49 : decode cX5_readAmount 49 = .ok (.aload_n 0, 1) := by decide +kernel
theorem dX5_readAmount_50 : decode cX5_readAmount 50 = .ok (.invokevirtual 158, 3) := by decide +kernel
theorem dX5_readAmount_53 : decode cX5_readAmount 53 = .ok (.iadd, 1) := by decide +kernel
theorem dX5_readAmount_54 : decode cX5_readAmount 54 = .ok (.bipush 48, 2) := by decide +kernel
theorem dX5_readAmount_56 : decode cX5_readAmount 56 = .ok (.isub, 1) := by decide +kernel
theorem dX5_readAmount_57 : decode cX5_readAmount 57 = .ok (.istore_n 2, 1) := by decide +kernel
theorem dX5_readAmount_58 : decode cX5_readAmount 58 = .ok (.aload_n 0, 1) := by decide +kernel
theorem dX5_readAmount_59 : decode cX5_readAmount 59 = .ok (.dup, 1) := by decide +kernel
theorem dX5_readAmount_60 : decode cX5_readAmount 60 = .ok (.getfield 152, 3) := by decide +kernel
theorem dX5_readAmount_63 : decode cX5_readAmount 63 = .ok (.iconst 1, 1) := by decide +kernel
theorem dX5_readAmount_64 : decode cX5_readAmount 64 = .ok (.iadd, 1) := by decide +kernel
theorem dX5_readAmount_65 : decode cX5_readAmount 65 = .ok (.putfield 152, 3) := by decide +kernel
theorem dX5_readAmount_68 : decode cX5_readAmount 68 = .ok (.goto (-43), 3) := by decide +kernel
theorem dX5_readAmount_71 : decode cX5_readAmount 71 = .ok (.aload_n 0, 1) := by decide +kernel
theorem dX5_readAmount_72 : decode cX5_readAmount 72 = .ok (.invokevirtual 158, 3) := by decide +kernel
theorem dX5_readAmount_75 : decode cX5_readAmount 75 = .ok (.invokestatic 164, 3) := by decide +kernel
theorem dX5_readAmount_78 : decode cX5_readAmount 78 = .ok (.ifCond .eq 11, 3) := by decide +kernel
theorem dX5_readAmount_81 : decode cX5_readAmount 81 = .ok (.aload_n 0, 1) := by decide +kernel
theorem dX5_readAmount_82 : decode cX5_readAmount 82 = .ok (.aload_n 0, 1) := by decide +kernel
theorem dX5_readAmount_83 : decode cX5_readAmount 83 = .ok (.getfield 152, 3) := by decide +kernel
theorem dX5_readAmount_86 : decode cX5_readAmount 86 = .ok (.invokevirtual 161, 3) := by decide +kernel
theorem dX5_readAmount_89 : decode cX5_readAmount 89 = .ok (.iload_n 2, 1) := by decide +kernel
theorem dX5_readAmount_90 : decode cX5_readAmount 90 = .ok (.ifCond .ne 8, 3) := by decide +kernel
theorem dX5_readAmount_93 : decode cX5_readAmount 93 = .ok (.aload_n 0, 1) := by decide +kernel
theorem dX5_readAmount_94 : decode cX5_readAmount 94 = .ok (.iload_n 1, 1) := by decide +kernel
theorem dX5_readAmount_95 : decode cX5_readAmount 95 = .ok (.invokevirtual 161, 3) := by decide +kernel
theorem dX5_readAmount_98 : decode cX5_readAmount 98 = .ok (.iload_n 2, 1) := by decide +kernel
theorem dX5_readAmount_99 : decode cX5_readAmount 99 = .ok (.ireturn, 1) := by decide +kernel
theorem dX5_reads_0 : decode cX5_reads 0 = .ok (.aload_n 0, 1) := by decide +kernel
theorem dX5_reads_1 : decode cX5_reads 1 = .ok (.aload_n 0, 1) := by decide +kernel
theorem dX5_reads_2 : decode cX5_reads 2 = .ok (.invokevirtual 158, 3) := by decide +kernel
theorem dX5_reads_5 : decode cX5_reads 5 = .ok (.putfield 167, 3) := by decide +kernel
theorem dX5_reads_8 : decode cX5_reads 8 = .ok (.aload_n 0, 1) := by decide +kernel
theorem dX5_reads_9 : decode cX5_reads 9 = .ok (.dup, 1) := by decide +kernel
theorem dX5_reads_10 : decode cX5_reads 10 = .ok (.getfield 152, 3) := by decide +kernel
theorem dX5_reads_13 : decode cX5_reads 13 = .ok (.iconst 1, 1) := by decide +kernel
theorem dX5_reads_14 : decode cX5_reads 14 = .ok (.iadd, 1) := by decide +kernel
theorem dX5_reads_15 : decode cX5_reads 15 = .ok (.putfield 152, 3) := by decide +kernel
theorem dX5_reads_18 : decode cX5_reads 18 = .ok (.aload_n 0, 1) := by decide +kernel
theorem dX5_reads_19 : decode cX5_reads 19 = .ok (.getfield 167, 3) := by decide +kernel
theorem dX5_reads_22 : decode cX5_reads 22 = .ok (.tableswitch 195 99 118 #[183, 195, 195, 195, 195, 195, 195, 195, 195, 94, 126, 195, 195, 195, 195, 163, 126, 183, 94, 126], 94) := by decide +kernel
theorem dX5_reads_116 : decode cX5_reads 116 = .ok (.aload_n 0, 1) := by decide +kernel
theorem dX5_reads_117 : decode cX5_reads 117 = .ok (.aload_n 0, 1) := by decide +kernel
theorem dX5_reads_118 : decode cX5_reads 118 = .ok (.bipush 7, 2) := by decide +kernel
theorem dX5_reads_120 : decode cX5_reads 120 = .ok (.invokevirtual 170, 3) := by decide +kernel
theorem dX5_reads_123 : decode cX5_reads 123 = .ok (.putfield 173, 3) := by decide +kernel
theorem dX5_reads_126 : decode cX5_reads 126 = .ok (.aload_n 0, 1) := by decide +kernel
theorem dX5_reads_127 : decode cX5_reads 127 = .ok (.iconst 0, 1) := by decide +kernel
theorem dX5_reads_128 : decode cX5_reads 128 = .ok (.putfield 176, 3) := by decide +kernel
theorem dX5_reads_131 : decode cX5_reads 131 = .ok (.aload_n 0, 1) := by decide +kernel
theorem dX5_reads_132 : decode cX5_reads 132 = .ok (.bipush 44, 2) := by decide +kernel
theorem dX5_reads_134 : decode cX5_reads 134 = .ok (.invokevirtual 179, 3) := by decide +kernel
theorem dX5_reads_137 : decode cX5_reads 137 = .ok (.aload_n 0, 1) := by decide +kernel
theorem dX5_reads_138 : decode cX5_reads 138 = .ok (.aload_n 0, 1) := by decide +kernel
theorem dX5_reads_139 : decode cX5_reads 139 = .ok (.invokevirtual 182, 3) := by decide +kernel
theorem dX5_reads_142 : decode cX5_reads 142 = .ok (.putfield 185, 3) := by decide +kernel
theorem dX5_reads_145 : decode cX5_reads 145 = .ok (.goto 82, 3) := by decide +kernel
theorem dX5_reads_148 : decode cX5_reads 148 = .ok (.aload_n 0, 1) := by decide +kernel
theorem dX5_reads_149 : decode cX5_reads 149 = .ok (.aload_n 0, 1) := by decide +kernel
theorem dX5_reads_150 : decode cX5_reads 150 = .ok (.bipush 7, 2) := by decide +kernel
theorem dX5_reads_152 : decode cX5_reads 152 = .ok (.invokevirtual 170, 3) := by decide +kernel
theorem dX5_reads_155 : decode cX5_reads 155 = .ok (.putfield 173, 3) := by decide +kernel
theorem dX5_reads_158 : decode cX5_reads 158 = .ok (.aload_n 0, 1) := by decide +kernel
theorem dX5_reads_159 : decode cX5_reads 159 = .ok (.aload_n 0, 1) := by decide +kernel
theorem dX5_reads_160 : decode cX5_reads 160 = .ok (.bipush 7, 2) := by decide +kernel
theorem dX5_reads_162 : decode cX5_reads 162 = .ok (.invokevirtual 170, 3) := by decide +kernel
theorem dX5_reads_165 : decode cX5_reads 165 = .ok (.putfield 176, 3) := by decide +kernel
theorem dX5_reads_168 : decode cX5_reads 168 = .ok (.aload_n 0, 1) := by decide +kernel
theorem dX5_reads_169 : decode cX5_reads 169 = .ok (.bipush 44, 2) := by decide +kernel
theorem dX5_reads_171 : decode cX5_reads 171 = .ok (.invokevirtual 179, 3) := by decide +kernel
theorem dX5_reads_174 : decode cX5_reads 174 = .ok (.aload_n 0, 1) := by decide +kernel
theorem dX5_reads_175 : decode cX5_reads 175 = .ok (.aload_n 0, 1) := by decide +kernel
theorem dX5_reads_176 : decode cX5_reads 176 = .ok (.invokevirtual 182, 3) := by decide +kernel
theorem dX5_reads_179 : decode cX5_reads 179 = .ok (.putfield 185, 3) := by decide +kernel
theorem dX5_reads_182 : decode cX5_reads 182 = .ok (.goto 45, 3) := by decide +kernel
theorem dX5_reads_185 : decode cX5_reads 185 = .ok (.aload_n 0, 1) := by decide +kernel
theorem dX5_reads_186 : decode cX5_reads 186 = .ok (.aload_n 0, 1) := by decide +kernel
theorem dX5_reads_187 : decode cX5_reads 187 = .ok (.iconst 1, 1) := by decide +kernel
theorem dX5_reads_188 : decode cX5_reads 188 = .ok (.invokevirtual 170, 3) := by decide +kernel
theorem dX5_reads_191 : decode cX5_reads 191 = .ok (.putfield 173, 3) := by decide +kernel
theorem dX5_reads_194 : decode cX5_reads 194 = .ok (.aload_n 0, 1) := by decide +kernel
theorem dX5_reads_195 : decode cX5_reads 195 = .ok (.aload_n 0, 1) := by decide +kernel
theorem dX5_reads_196 : decode cX5_reads 196 = .ok (.invokevirtual 182, 3) := by decide +kernel
theorem dX5_reads_199 : decode cX5_reads 199 = .ok (.putfield 185, 3) := by decide +kernel
theorem dX5_reads_202 : decode cX5_reads 202 = .ok (.goto 25, 3) := by decide +kernel
theorem dX5_reads_205 : decode cX5_reads 205 = .ok (.aload_n 0, 1) := by decide +kernel
theorem dX5_reads_206 : decode cX5_reads 206 = .ok (.aload_n 0, 1) := by decide +kernel
theorem dX5_reads_207 : decode cX5_reads 207 = .ok (.iconst 1, 1) := by decide +kernel
theorem dX5_reads_208 : decode cX5_reads 208 = .ok (.invokevirtual 170, 3) := by decide +kernel
theorem dX5_reads_211 : decode cX5_reads 211 = .ok (.putfield 173, 3) := by decide +kernel
theorem dX5_reads_214 : decode cX5_reads 214 = .ok (.goto 13, 3) := by decide +kernel
theorem dX5_reads_217 : decode cX5_reads 217 = .ok (.aload_n 0, 1) := by decide +kernel
theorem dX5_reads_218 : decode cX5_reads 218 = .ok (.aload_n 0, 1) := by decide +kernel
theorem dX5_reads_219 : decode cX5_reads 219 = .ok (.getfield 152, 3) := by decide +kernel
theorem dX5_reads_222 : decode cX5_reads 222 = .ok (.iconst 1, 1) := by decide +kernel
theorem dX5_reads_223 : decode cX5_reads 223 = .ok (.isub, 1) := by decide +kernel
theorem dX5_reads_224 : decode cX5_reads 224 = .ok (.invokevirtual 161, 3) := by decide +kernel
theorem dX5_reads_227 : decode cX5_reads 227 = .ok (.aload_n 0, 1) := by decide +kernel
theorem dX5_reads_228 : decode cX5_reads 228 = .ok (.bipush 59, 2) := by decide +kernel
theorem dX5_reads_230 : decode cX5_reads 230 = .ok (.invokevirtual 179, 3) := by decide +kernel
theorem dX5_reads_233 : decode cX5_reads 233 = .ok (.return_, 1) := by decide +kernel
theorem dX5_faultOf_0 : decode cX5_faultOf 0 = .ok (.aload_n 0, 1) := by decide +kernel
theorem dX5_faultOf_1 : decode cX5_faultOf 1 = .ok (.iconst 0, 1) := by decide +kernel
theorem dX5_faultOf_2 : decode cX5_faultOf 2 = .ok (.putfield 152, 3) := by decide +kernel
theorem dX5_faultOf_5 : decode cX5_faultOf 5 = .ok (.aload_n 0, 1) := by decide +kernel
theorem dX5_faultOf_6 : decode cX5_faultOf 6 = .ok (.iconst (-1), 1) := by decide +kernel
theorem dX5_faultOf_7 : decode cX5_faultOf 7 = .ok (.putfield 155, 3) := by decide +kernel
theorem dX5_faultOf_10 : decode cX5_faultOf 10 = .ok (.aload_n 0, 1) := by decide +kernel
theorem dX5_faultOf_11 : decode cX5_faultOf 11 = .ok (.getfield 155, 3) := by decide +kernel
theorem dX5_faultOf_14 : decode cX5_faultOf 14 = .ok (.iconst (-1), 1) := by decide +kernel
theorem dX5_faultOf_15 : decode cX5_faultOf 15 = .ok (.if_icmp .ne 21, 3) := by decide +kernel
theorem dX5_faultOf_18 : decode cX5_faultOf 18 = .ok (.aload_n 0, 1) := by decide +kernel
theorem dX5_faultOf_19 : decode cX5_faultOf 19 = .ok (.getfield 152, 3) := by decide +kernel
theorem dX5_faultOf_22 : decode cX5_faultOf 22 = .ok (.aload_n 0, 1) := by decide +kernel
theorem dX5_faultOf_23 : decode cX5_faultOf 23 = .ok (.getfield 149, 3) := by decide +kernel
theorem dX5_faultOf_26 : decode cX5_faultOf 26 = .ok (.if_icmp .ge 10, 3) := by decide +kernel
theorem dX5_faultOf_29 : decode cX5_faultOf 29 = .ok (.aload_n 0, 1) := by decide +kernel
theorem dX5_faultOf_30 : decode cX5_faultOf 30 = .ok (.invokevirtual 188, 3) := by decide +kernel
theorem dX5_faultOf_33 : decode cX5_faultOf 33 = .ok (.goto (-23), 3) := by decide +kernel
theorem dX5_faultOf_36 : decode cX5_faultOf 36 = .ok (.aload_n 0, 1) := by decide +kernel
theorem dX5_faultOf_37 : decode cX5_faultOf 37 = .ok (.getfield 155, 3) := by decide +kernel
theorem dX5_faultOf_40 : decode cX5_faultOf 40 = .ok (.ireturn, 1) := by decide +kernel
theorem dX5_carries_0 : decode cX5_carries 0 = .ok (.aload_n 0, 1) := by decide +kernel
theorem dX5_carries_1 : decode cX5_carries 1 = .ok (.getfield 167, 3) := by decide +kernel
theorem dX5_carries_4 : decode cX5_carries 4 = .ok (.tableswitch 166 108 118 #[60, 90, 166, 166, 166, 166, 144, 108, 157, 75, 126], 60) := by decide +kernel
theorem dX5_carries_64 : decode cX5_carries 64 = .ok (.aload_n 0, 1) := by decide +kernel
theorem dX5_carries_65 : decode cX5_carries 65 = .ok (.iconst 0, 1) := by decide +kernel
theorem dX5_carries_66 : decode cX5_carries 66 = .ok (.aload_n 0, 1) := by decide +kernel
theorem dX5_carries_67 : decode cX5_carries 67 = .ok (.getfield 173, 3) := by decide +kernel
theorem dX5_carries_70 : decode cX5_carries 70 = .ok (.iconst 0, 1) := by decide +kernel
theorem dX5_carries_71 : decode cX5_carries 71 = .ok (.aload_n 0, 1) := by decide +kernel
theorem dX5_carries_72 : decode cX5_carries 72 = .ok (.getfield 185, 3) := by decide +kernel
theorem dX5_carries_75 : decode cX5_carries 75 = .ok (.invokevirtual 94, 3) := by decide +kernel
theorem dX5_carries_78 : decode cX5_carries 78 = .ok (.ireturn, 1) := by decide +kernel
theorem dX5_carries_79 : decode cX5_carries 79 = .ok (.aload_n 0, 1) := by decide +kernel
theorem dX5_carries_80 : decode cX5_carries 80 = .ok (.iconst 1, 1) := by decide +kernel
theorem dX5_carries_81 : decode cX5_carries 81 = .ok (.aload_n 0, 1) := by decide +kernel
theorem dX5_carries_82 : decode cX5_carries 82 = .ok (.getfield 173, 3) := by decide +kernel
theorem dX5_carries_85 : decode cX5_carries 85 = .ok (.iconst 0, 1) := by decide +kernel
theorem dX5_carries_86 : decode cX5_carries 86 = .ok (.aload_n 0, 1) := by decide +kernel
theorem dX5_carries_87 : decode cX5_carries 87 = .ok (.getfield 185, 3) := by decide +kernel
theorem dX5_carries_90 : decode cX5_carries 90 = .ok (.invokevirtual 94, 3) := by decide +kernel
theorem dX5_carries_93 : decode cX5_carries 93 = .ok (.ireturn, 1) := by decide +kernel
theorem dX5_carries_94 : decode cX5_carries 94 = .ok (.aload_n 0, 1) := by decide +kernel
theorem dX5_carries_95 : decode cX5_carries 95 = .ok (.iconst 2, 1) := by decide +kernel
theorem dX5_carries_96 : decode cX5_carries 96 = .ok (.aload_n 0, 1) := by decide +kernel
theorem dX5_carries_97 : decode cX5_carries 97 = .ok (.getfield 173, 3) := by decide +kernel
theorem dX5_carries_100 : decode cX5_carries 100 = .ok (.aload_n 0, 1) := by decide +kernel
theorem dX5_carries_101 : decode cX5_carries 101 = .ok (.getfield 176, 3) := by decide +kernel
theorem dX5_carries_104 : decode cX5_carries 104 = .ok (.aload_n 0, 1) := by decide +kernel
theorem dX5_carries_105 : decode cX5_carries 105 = .ok (.getfield 185, 3) := by decide +kernel
theorem dX5_carries_108 : decode cX5_carries 108 = .ok (.invokevirtual 94, 3) := by decide +kernel
theorem dX5_carries_111 : decode cX5_carries 111 = .ok (.ireturn, 1) := by decide +kernel
theorem dX5_carries_112 : decode cX5_carries 112 = .ok (.aload_n 0, 1) := by decide +kernel
theorem dX5_carries_113 : decode cX5_carries 113 = .ok (.iconst 3, 1) := by decide +kernel
theorem dX5_carries_114 : decode cX5_carries 114 = .ok (.aload_n 0, 1) := by decide +kernel
theorem dX5_carries_115 : decode cX5_carries 115 = .ok (.getfield 173, 3) := by decide +kernel
theorem dX5_carries_118 : decode cX5_carries 118 = .ok (.aload_n 0, 1) := by decide +kernel
theorem dX5_carries_119 : decode cX5_carries 119 = .ok (.getfield 176, 3) := by decide +kernel
theorem dX5_carries_122 : decode cX5_carries 122 = .ok (.aload_n 0, 1) := by decide +kernel
theorem dX5_carries_123 : decode cX5_carries 123 = .ok (.getfield 185, 3) := by decide +kernel
theorem dX5_carries_126 : decode cX5_carries 126 = .ok (.invokevirtual 94, 3) := by decide +kernel
theorem dX5_carries_129 : decode cX5_carries 129 = .ok (.ireturn, 1) := by decide +kernel
theorem dX5_carries_130 : decode cX5_carries 130 = .ok (.aload_n 0, 1) := by decide +kernel
theorem dX5_carries_131 : decode cX5_carries 131 = .ok (.iconst 4, 1) := by decide +kernel
theorem dX5_carries_132 : decode cX5_carries 132 = .ok (.aload_n 0, 1) := by decide +kernel
theorem dX5_carries_133 : decode cX5_carries 133 = .ok (.getfield 173, 3) := by decide +kernel
theorem dX5_carries_136 : decode cX5_carries 136 = .ok (.aload_n 0, 1) := by decide +kernel
theorem dX5_carries_137 : decode cX5_carries 137 = .ok (.getfield 176, 3) := by decide +kernel
theorem dX5_carries_140 : decode cX5_carries 140 = .ok (.aload_n 0, 1) := by decide +kernel
theorem dX5_carries_141 : decode cX5_carries 141 = .ok (.getfield 185, 3) := by decide +kernel
theorem dX5_carries_144 : decode cX5_carries 144 = .ok (.invokevirtual 94, 3) := by decide +kernel
theorem dX5_carries_147 : decode cX5_carries 147 = .ok (.ireturn, 1) := by decide +kernel
theorem dX5_carries_148 : decode cX5_carries 148 = .ok (.aload_n 0, 1) := by decide +kernel
theorem dX5_carries_149 : decode cX5_carries 149 = .ok (.aload_n 0, 1) := by decide +kernel
theorem dX5_carries_150 : decode cX5_carries 150 = .ok (.getfield 173, 3) := by decide +kernel
theorem dX5_carries_153 : decode cX5_carries 153 = .ok (.aload_n 0, 1) := by decide +kernel
theorem dX5_carries_154 : decode cX5_carries 154 = .ok (.getfield 185, 3) := by decide +kernel
theorem dX5_carries_157 : decode cX5_carries 157 = .ok (.invokevirtual 110, 3) := by decide +kernel
theorem dX5_carries_160 : decode cX5_carries 160 = .ok (.ireturn, 1) := by decide +kernel
theorem dX5_carries_161 : decode cX5_carries 161 = .ok (.aload_n 0, 1) := by decide +kernel
theorem dX5_carries_162 : decode cX5_carries 162 = .ok (.aload_n 0, 1) := by decide +kernel
theorem dX5_carries_163 : decode cX5_carries 163 = .ok (.getfield 173, 3) := by decide +kernel
theorem dX5_carries_166 : decode cX5_carries 166 = .ok (.invokevirtual 113, 3) := by decide +kernel
theorem dX5_carries_169 : decode cX5_carries 169 = .ok (.ireturn, 1) := by decide +kernel
theorem dX5_carries_170 : decode cX5_carries 170 = .ok (.aload_n 0, 1) := by decide +kernel
theorem dX5_carries_171 : decode cX5_carries 171 = .ok (.aload_n 0, 1) := by decide +kernel
theorem dX5_carries_172 : decode cX5_carries 172 = .ok (.getfield 173, 3) := by decide +kernel
theorem dX5_carries_175 : decode cX5_carries 175 = .ok (.invokevirtual 116, 3) := by decide +kernel
theorem dX5_carries_178 : decode cX5_carries 178 = .ok (.ireturn, 1) := by decide +kernel
theorem dX5_carryOut_0 : decode cX5_carryOut 0 = .ok (.aload_n 0, 1) := by decide +kernel
theorem dX5_carryOut_1 : decode cX5_carryOut 1 = .ok (.invokevirtual 191, 3) := by decide +kernel
theorem dX5_carryOut_4 : decode cX5_carryOut 4 = .ok (.iconst (-1), 1) := by decide +kernel
theorem dX5_carryOut_5 : decode cX5_carryOut 5 = .ok (.if_icmp .eq 15, 3) := by decide +kernel
theorem dX5_carryOut_8 : decode cX5_carryOut 8 = .ok (.aload_n 0, 1) := by decide +kernel
theorem dX5_carryOut_9 : decode cX5_carryOut 9 = .ok (.bipush (-10), 2) := by decide +kernel
theorem dX5_carryOut_11 : decode cX5_carryOut 11 = .ok (.aload_n 0, 1) := by decide +kernel
theorem dX5_carryOut_12 : decode cX5_carryOut 12 = .ok (.getfield 155, 3) := by decide +kernel
theorem dX5_carryOut_15 : decode cX5_carryOut 15 = .ok (.isub, 1) := by decide +kernel
theorem dX5_carryOut_16 : decode cX5_carryOut 16 = .ok (.invokevirtual 54, 3) := by decide +kernel
theorem dX5_carryOut_19 : decode cX5_carryOut 19 = .ok (.ireturn, 1) := by decide +kernel
theorem dX5_carryOut_20 : decode cX5_carryOut 20 = .ok (.aload_n 0, 1) := by decide +kernel
theorem dX5_carryOut_21 : decode cX5_carryOut 21 = .ok (.invokevirtual 91, 3) := by decide +kernel
theorem dX5_carryOut_24 : decode cX5_carryOut 24 = .ok (.aload_n 0, 1) := by decide +kernel
theorem dX5_carryOut_25 : decode cX5_carryOut 25 = .ok (.invokevirtual 48, 3) := by decide +kernel
theorem dX5_carryOut_28 : decode cX5_carryOut 28 = .ok (.iconst 0, 1) := by decide +kernel
theorem dX5_carryOut_29 : decode cX5_carryOut 29 = .ok (.istore_n 1, 1) := by decide +kernel
theorem dX5_carryOut_30 : decode cX5_carryOut 30 = .ok (.aload_n 0, 1) := by decide +kernel
theorem dX5_carryOut_31 : decode cX5_carryOut 31 = .ok (.iconst 0, 1) := by decide +kernel
theorem dX5_carryOut_32 : decode cX5_carryOut 32 = .ok (.putfield 152, 3) := by decide +kernel
theorem dX5_carryOut_35 : decode cX5_carryOut 35 = .ok (.aload_n 0, 1) := by decide +kernel
theorem dX5_carryOut_36 : decode cX5_carryOut 36 = .ok (.getfield 152, 3) := by decide +kernel
theorem dX5_carryOut_39 : decode cX5_carryOut 39 = .ok (.aload_n 0, 1) := by decide +kernel
theorem dX5_carryOut_40 : decode cX5_carryOut 40 = .ok (.getfield 149, 3) := by decide +kernel
theorem dX5_carryOut_43 : decode cX5_carryOut 43 = .ok (.if_icmp .ge 7, 3) := by decide +kernel
theorem dX5_carryOut_46 : decode cX5_carryOut 46 = .ok (.iconst 1, 1) := by decide +kernel
theorem dX5_carryOut_47 : decode cX5_carryOut 47 = .ok (.goto 4, 3) := by decide +kernel
theorem dX5_carryOut_50 : decode cX5_carryOut 50 = .ok (.iconst 0, 1) := by decide +kernel
theorem dX5_carryOut_51 : decode cX5_carryOut 51 = .ok (.istore_n 2, 1) := by decide +kernel
theorem dX5_carryOut_52 : decode cX5_carryOut 52 = .ok (.iload_n 2, 1) := by decide +kernel
theorem dX5_carryOut_53 : decode cX5_carryOut 53 = .ok (.ifCond .eq 56, 3) := by decide +kernel
theorem dX5_carryOut_56 : decode cX5_carryOut 56 = .ok (.aload_n 0, 1) := by decide +kernel
theorem dX5_carryOut_57 : decode cX5_carryOut 57 = .ok (.invokevirtual 188, 3) := by decide +kernel
theorem dX5_carryOut_60 : decode cX5_carryOut 60 = .ok (.aload_n 0, 1) := by decide +kernel
theorem dX5_carryOut_61 : decode cX5_carryOut 61 = .ok (.invokevirtual 194, 3) := by decide +kernel
theorem dX5_carryOut_64 : decode cX5_carryOut 64 = .ok (.ifCond .ne 7, 3) := by decide +kernel
theorem dX5_carryOut_67 : decode cX5_carryOut 67 = .ok (.iconst 1, 1) := by decide +kernel
theorem dX5_carryOut_68 : decode cX5_carryOut 68 = .ok (.goto 4, 3) := by decide +kernel
theorem dX5_carryOut_71 : decode cX5_carryOut 71 = .ok (.iconst 0, 1) := by decide +kernel
theorem dX5_carryOut_72 : decode cX5_carryOut 72 = .ok (.istore_n 2, 1) := by decide +kernel
theorem dX5_carryOut_73 : decode cX5_carryOut 73 = .ok (.iload_n 1, 1) := by decide +kernel
theorem dX5_carryOut_74 : decode cX5_carryOut 74 = .ok (.iload_n 2, 1) := by decide +kernel
theorem dX5_carryOut_75 : decode cX5_carryOut 75 = .ok (.ifCond .eq 7, 3) := by decide +kernel
theorem dX5_carryOut_78 : decode cX5_carryOut 78 = .ok (.iconst 1, 1) := by decide +kernel
theorem dX5_carryOut_79 : decode cX5_carryOut 79 = .ok (.goto 4, 3) := by decide +kernel
theorem dX5_carryOut_82 : decode cX5_carryOut 82 = .ok (.iconst 0, 1) := by decide +kernel
theorem dX5_carryOut_83 : decode cX5_carryOut 83 = .ok (.iadd, 1) := by decide +kernel
theorem dX5_carryOut_84 : decode cX5_carryOut 84 = .ok (.istore_n 1, 1) := by decide +kernel
theorem dX5_carryOut_85 : decode cX5_carryOut 85 = .ok (.iload_n 2, 1) := by decide +kernel
theorem dX5_carryOut_86 : decode cX5_carryOut 86 = .ok (.ifCond .eq 18, 3) := by decide +kernel
theorem dX5_carryOut_89 : decode cX5_carryOut 89 = .ok (.aload_n 0, 1) := by decide +kernel
theorem dX5_carryOut_90 : decode cX5_carryOut 90 = .ok (.getfield 152, 3) := by decide +kernel
theorem dX5_carryOut_93 : decode cX5_carryOut 93 = .ok (.aload_n 0, 1) := by decide +kernel
theorem dX5_carryOut_94 : decode cX5_carryOut 94 = .ok (.getfield 149, 3) := by decide +kernel
theorem dX5_carryOut_97 : decode cX5_carryOut 97 = .ok (.if_icmp .ge 7, 3) := by decide +kernel
theorem dX5_carryOut_100 : decode cX5_carryOut 100 = .ok (.iconst 1, 1) := by decide +kernel
theorem dX5_carryOut_101 : decode cX5_carryOut 101 = .ok (.goto 4, 3) := by decide +kernel
theorem dX5_carryOut_104 : decode cX5_carryOut 104 = .ok (.iconst 0, 1) := by decide +kernel
theorem dX5_carryOut_105 : decode cX5_carryOut 105 = .ok (.istore_n 2, 1) := by decide +kernel
theorem dX5_carryOut_106 : decode cX5_carryOut 106 = .ok (.goto (-54), 3) := by decide +kernel
theorem dX5_carryOut_109 : decode cX5_carryOut 109 = .ok (.aload_n 0, 1) := by decide +kernel
theorem dX5_carryOut_110 : decode cX5_carryOut 110 = .ok (.iload_n 1, 1) := by decide +kernel
theorem dX5_carryOut_111 : decode cX5_carryOut 111 = .ok (.invokevirtual 54, 3) := by decide +kernel
theorem dX5_carryOut_114 : decode cX5_carryOut 114 = .ok (.ireturn, 1) := by decide +kernel
theorem dX5_hashes_0 : decode cX5_hashes 0 = .ok (.aload_n 0, 1) := by decide +kernel
theorem dX5_hashes_1 : decode cX5_hashes 1 = .ok (.ldc2_w 197, 3) := by decide +kernel
theorem dX5_hashes_4 : decode cX5_hashes 4 = .ok (.aload_n 0, 1) := by decide +kernel
theorem dX5_hashes_5 : decode cX5_hashes 5 = .ok (.getfield 199, 3) := by decide +kernel
theorem dX5_hashes_8 : decode cX5_hashes 8 = .ok (.lmul, 1) := by decide +kernel
theorem dX5_hashes_9 : decode cX5_hashes 9 = .ok (.iload_n 1, 1) := by decide +kernel
theorem dX5_hashes_10 : decode cX5_hashes 10 = .ok (.i2l, 1) := by decide +kernel
theorem dX5_hashes_11 : decode cX5_hashes 11 = .ok (.ladd, 1) := by decide +kernel
theorem dX5_hashes_12 : decode cX5_hashes 12 = .ok (.putfield 199, 3) := by decide +kernel
theorem dX5_hashes_15 : decode cX5_hashes 15 = .ok (.return_, 1) := by decide +kernel
theorem dX5_digest_0 : decode cX5_digest 0 = .ok (.aload_n 0, 1) := by decide +kernel
theorem dX5_digest_1 : decode cX5_digest 1 = .ok (.iconst 0, 1) := by decide +kernel
theorem dX5_digest_2 : decode cX5_digest 2 = .ok (.putfield 29, 3) := by decide +kernel
theorem dX5_digest_5 : decode cX5_digest 5 = .ok (.aload_n 0, 1) := by decide +kernel
theorem dX5_digest_6 : decode cX5_digest 6 = .ok (.ldc2_w 203, 3) := by decide +kernel
theorem dX5_digest_9 : decode cX5_digest 9 = .ok (.putfield 199, 3) := by decide +kernel
theorem dX5_digest_12 : decode cX5_digest 12 = .ok (.aload_n 0, 1) := by decide +kernel
theorem dX5_digest_13 : decode cX5_digest 13 = .ok (.aload_n 0, 1) := by decide +kernel
theorem dX5_digest_14 : decode cX5_digest 14 = .ok (.getfield 149, 3) := by decide +kernel
theorem dX5_digest_17 : decode cX5_digest 17 = .ok (.invokevirtual 205, 3) := by decide +kernel
theorem dX5_digest_20 : decode cX5_digest 20 = .ok (.iconst 0, 1) := by decide +kernel
theorem dX5_digest_21 : decode cX5_digest 21 = .ok (.istore_n 1, 1) := by decide +kernel
theorem dX5_digest_22 : decode cX5_digest 22 = .ok (.iload_n 1, 1) := by decide +kernel
theorem dX5_digest_23 : decode cX5_digest 23 = .ok (.bipush 7, 2) := by decide +kernel
theorem dX5_digest_25 : decode cX5_digest 25 = .ok (.if_icmp .ge 18, 3) := by decide +kernel
theorem dX5_digest_28 : decode cX5_digest 28 = .ok (.aload_n 0, 1) := by decide +kernel
theorem dX5_digest_29 : decode cX5_digest 29 = .ok (.aload_n 0, 1) := by decide +kernel
theorem dX5_digest_30 : decode cX5_digest 30 = .ok (.iload_n 1, 1) := by decide +kernel
theorem dX5_digest_31 : decode cX5_digest 31 = .ok (.invokevirtual 129, 3) := by decide +kernel
theorem dX5_digest_34 : decode cX5_digest 34 = .ok (.invokevirtual 205, 3) := by decide +kernel
theorem dX5_digest_37 : decode cX5_digest 37 = .ok (.iinc 1 1, 3) := by decide +kernel
theorem dX5_digest_40 : decode cX5_digest 40 = .ok (.goto (-18), 3) := by decide +kernel
theorem dX5_digest_43 : decode cX5_digest 43 = .ok (.aload_n 0, 1) := by decide +kernel
theorem dX5_digest_44 : decode cX5_digest 44 = .ok (.getfield 7, 3) := by decide +kernel
theorem dX5_digest_47 : decode cX5_digest 47 = .ok (.iconst 1, 1) := by decide +kernel
theorem dX5_digest_48 : decode cX5_digest 48 = .ok (.iaload, 1) := by decide +kernel
theorem dX5_digest_49 : decode cX5_digest 49 = .ok (.istore_n 1, 1) := by decide +kernel
theorem dX5_digest_50 : decode cX5_digest 50 = .ok (.iload_n 1, 1) := by decide +kernel
theorem dX5_digest_51 : decode cX5_digest 51 = .ok (.aload_n 0, 1) := by decide +kernel
theorem dX5_digest_52 : decode cX5_digest 52 = .ok (.getfield 7, 3) := by decide +kernel
theorem dX5_digest_55 : decode cX5_digest 55 = .ok (.iconst 2, 1) := by decide +kernel
theorem dX5_digest_56 : decode cX5_digest 56 = .ok (.iaload, 1) := by decide +kernel
theorem dX5_digest_57 : decode cX5_digest 57 = .ok (.if_icmp .ge 33, 3) := by decide +kernel
theorem dX5_digest_60 : decode cX5_digest 60 = .ok (.iconst 0, 1) := by decide +kernel
theorem dX5_digest_61 : decode cX5_digest 61 = .ok (.istore_n 2, 1) := by decide +kernel
theorem dX5_digest_62 : decode cX5_digest 62 = .ok (.iload_n 2, 1) := by decide +kernel
theorem dX5_digest_63 : decode cX5_digest 63 = .ok (.bipush 6, 2) := by decide +kernel
theorem dX5_digest_65 : decode cX5_digest 65 = .ok (.if_icmp .ge 19, 3) := by decide +kernel
theorem dX5_digest_68 : decode cX5_digest 68 = .ok (.aload_n 0, 1) := by decide +kernel
theorem dX5_digest_69 : decode cX5_digest 69 = .ok (.aload_n 0, 1) := by decide +kernel
theorem dX5_digest_70 : decode cX5_digest 70 = .ok (.iload_n 1, 1) := by decide +kernel
theorem dX5_digest_71 : decode cX5_digest 71 = .ok (.iload_n 2, 1) := by decide +kernel
theorem dX5_digest_72 : decode cX5_digest 72 = .ok (.invokevirtual 119, 3) := by decide +kernel
theorem dX5_digest_75 : decode cX5_digest 75 = .ok (.invokevirtual 205, 3) := by decide +kernel
theorem dX5_digest_78 : decode cX5_digest 78 = .ok (.iinc 2 1, 3) := by decide +kernel
theorem dX5_digest_81 : decode cX5_digest 81 = .ok (.goto (-19), 3) := by decide +kernel
theorem dX5_digest_84 : decode cX5_digest 84 = .ok (.iinc 1 1, 3) := by decide +kernel
theorem dX5_digest_87 : decode cX5_digest 87 = .ok (.goto (-37), 3) := by decide +kernel
theorem dX5_digest_90 : decode cX5_digest 90 = .ok (.iconst 0, 1) := by decide +kernel
theorem dX5_digest_91 : decode cX5_digest 91 = .ok (.istore_n 1, 1) := by decide +kernel
theorem dX5_digest_92 : decode cX5_digest 92 = .ok (.iload_n 1, 1) := by decide +kernel
theorem dX5_digest_93 : decode cX5_digest 93 = .ok (.iconst 2, 1) := by decide +kernel
theorem dX5_digest_94 : decode cX5_digest 94 = .ok (.if_icmp .ge 59, 3) := by decide +kernel
theorem dX5_digest_97 : decode cX5_digest 97 = .ok (.iconst 0, 1) := by decide +kernel
theorem dX5_digest_98 : decode cX5_digest 98 = .ok (.istore_n 2, 1) := by decide +kernel
theorem dX5_digest_99 : decode cX5_digest 99 = .ok (.iload_n 2, 1) := by decide +kernel
theorem dX5_digest_100 : decode cX5_digest 100 = .ok (.bipush 6, 2) := by decide +kernel
theorem dX5_digest_102 : decode cX5_digest 102 = .ok (.if_icmp .ge 19, 3) := by decide +kernel
theorem dX5_digest_105 : decode cX5_digest 105 = .ok (.aload_n 0, 1) := by decide +kernel
theorem dX5_digest_106 : decode cX5_digest 106 = .ok (.aload_n 0, 1) := by decide +kernel
theorem dX5_digest_107 : decode cX5_digest 107 = .ok (.iload_n 1, 1) := by decide +kernel
theorem dX5_digest_108 : decode cX5_digest 108 = .ok (.iload_n 2, 1) := by decide +kernel
theorem dX5_digest_109 : decode cX5_digest 109 = .ok (.invokevirtual 122, 3) := by decide +kernel
theorem dX5_digest_112 : decode cX5_digest 112 = .ok (.invokevirtual 205, 3) := by decide +kernel
theorem dX5_digest_115 : decode cX5_digest 115 = .ok (.iinc 2 1, 3) := by decide +kernel
theorem dX5_digest_118 : decode cX5_digest 118 = .ok (.goto (-19), 3) := by decide +kernel
theorem dX5_digest_121 : decode cX5_digest 121 = .ok (.iconst 0, 1) := by decide +kernel
theorem dX5_digest_122 : decode cX5_digest 122 = .ok (.istore_n 2, 1) := by decide +kernel
theorem dX5_digest_123 : decode cX5_digest 123 = .ok (.iload_n 2, 1) := by decide +kernel
theorem dX5_digest_124 : decode cX5_digest 124 = .ok (.bipush 8, 2) := by decide +kernel
theorem dX5_digest_126 : decode cX5_digest 126 = .ok (.if_icmp .ge 21, 3) := by decide +kernel
theorem dX5_digest_129 : decode cX5_digest 129 = .ok (.aload_n 0, 1) := by decide +kernel
theorem dX5_digest_130 : decode cX5_digest 130 = .ok (.aload_n 0, 1) := by decide +kernel
theorem dX5_digest_131 : decode cX5_digest 131 = .ok (.iload_n 1, 1) := by decide +kernel
theorem dX5_digest_132 : decode cX5_digest 132 = .ok (.iconst 5, 1) := by decide +kernel
theorem dX5_digest_133 : decode cX5_digest 133 = .ok (.iload_n 2, 1) := by decide +kernel
theorem dX5_digest_134 : decode cX5_digest 134 = .ok (.iadd, 1) := by decide +kernel
theorem dX5_digest_135 : decode cX5_digest 135 = .ok (.invokevirtual 57, 3) := by decide +kernel
theorem dX5_digest_138 : decode cX5_digest 138 = .ok (.invokevirtual 205, 3) := by decide +kernel
theorem dX5_digest_141 : decode cX5_digest 141 = .ok (.iinc 2 1, 3) := by decide +kernel
theorem dX5_digest_144 : decode cX5_digest 144 = .ok (.goto (-21), 3) := by decide +kernel
theorem dX5_digest_147 : decode cX5_digest 147 = .ok (.iinc 1 1, 3) := by decide +kernel
theorem dX5_digest_150 : decode cX5_digest 150 = .ok (.goto (-58), 3) := by decide +kernel
theorem dX5_digest_153 : decode cX5_digest 153 = .ok (.aload_n 0, 1) := by decide +kernel
theorem dX5_digest_154 : decode cX5_digest 154 = .ok (.aload_n 0, 1) := by decide +kernel
theorem dX5_digest_155 : decode cX5_digest 155 = .ok (.iconst 0, 1) := by decide +kernel
theorem dX5_digest_156 : decode cX5_digest 156 = .ok (.invokevirtual 78, 3) := by decide +kernel
theorem dX5_digest_159 : decode cX5_digest 159 = .ok (.invokevirtual 205, 3) := by decide +kernel
theorem dX5_digest_162 : decode cX5_digest 162 = .ok (.aload_n 0, 1) := by decide +kernel
theorem dX5_digest_163 : decode cX5_digest 163 = .ok (.aload_n 0, 1) := by decide +kernel
theorem dX5_digest_164 : decode cX5_digest 164 = .ok (.iconst 1, 1) := by decide +kernel
theorem dX5_digest_165 : decode cX5_digest 165 = .ok (.invokevirtual 78, 3) := by decide +kernel
theorem dX5_digest_168 : decode cX5_digest 168 = .ok (.invokevirtual 205, 3) := by decide +kernel
theorem dX5_digest_171 : decode cX5_digest 171 = .ok (.aload_n 0, 1) := by decide +kernel
theorem dX5_digest_172 : decode cX5_digest 172 = .ok (.aload_n 0, 1) := by decide +kernel
theorem dX5_digest_173 : decode cX5_digest 173 = .ok (.invokevirtual 146, 3) := by decide +kernel
theorem dX5_digest_176 : decode cX5_digest 176 = .ok (.invokevirtual 205, 3) := by decide +kernel
theorem dX5_digest_179 : decode cX5_digest 179 = .ok (.iconst 0, 1) := by decide +kernel
theorem dX5_digest_180 : decode cX5_digest 180 = .ok (.istore_n 1, 1) := by decide +kernel
theorem dX5_digest_181 : decode cX5_digest 181 = .ok (.iload_n 1, 1) := by decide +kernel
theorem dX5_digest_182 : decode cX5_digest 182 = .ok (.bipush 8, 2) := by decide +kernel
theorem dX5_digest_184 : decode cX5_digest 184 = .ok (.if_icmp .ge 24, 3) := by decide +kernel
theorem dX5_digest_187 : decode cX5_digest 187 = .ok (.aload_n 0, 1) := by decide +kernel
theorem dX5_digest_188 : decode cX5_digest 188 = .ok (.aload_n 0, 1) := by decide +kernel
theorem dX5_digest_189 : decode cX5_digest 189 = .ok (.aload_n 0, 1) := by decide +kernel
theorem dX5_digest_190 : decode cX5_digest 190 = .ok (.getfield 7, 3) := by decide +kernel
theorem dX5_digest_193 : decode cX5_digest 193 = .ok (.iconst 2, 1) := by decide +kernel
theorem dX5_digest_194 : decode cX5_digest 194 = .ok (.iaload, 1) := by decide +kernel
theorem dX5_digest_195 : decode cX5_digest 195 = .ok (.iload_n 1, 1) := by decide +kernel
theorem dX5_digest_196 : decode cX5_digest 196 = .ok (.invokevirtual 143, 3) := by decide +kernel
theorem dX5_digest_199 : decode cX5_digest 199 = .ok (.invokevirtual 205, 3) := by decide +kernel
theorem dX5_digest_202 : decode cX5_digest 202 = .ok (.iinc 1 1, 3) := by decide +kernel
theorem dX5_digest_205 : decode cX5_digest 205 = .ok (.goto (-24), 3) := by decide +kernel
theorem dX5_digest_208 : decode cX5_digest 208 = .ok (.aload_n 0, 1) := by decide +kernel
theorem dX5_digest_209 : decode cX5_digest 209 = .ok (.aload_n 0, 1) := by decide +kernel
theorem dX5_digest_210 : decode cX5_digest 210 = .ok (.getfield 41, 3) := by decide +kernel
theorem dX5_digest_213 : decode cX5_digest 213 = .ok (.invokevirtual 205, 3) := by decide +kernel
theorem dX5_digest_216 : decode cX5_digest 216 = .ok (.aload_n 0, 1) := by decide +kernel
theorem dX5_digest_217 : decode cX5_digest 217 = .ok (.getfield 199, 3) := by decide +kernel
theorem dX5_digest_220 : decode cX5_digest 220 = .ok (.lreturn, 1) := by decide +kernel
theorem dJ6_bitCount_0f7a4_0 : decode cJ6_bitCount_0f7a4 0 = .ok (.iload_n 0, 1) := by decide +kernel
theorem dJ6_bitCount_0f7a4_1 : decode cJ6_bitCount_0f7a4 1 = .ok (.iload_n 0, 1) := by decide +kernel
theorem dJ6_bitCount_0f7a4_2 : decode cJ6_bitCount_0f7a4 2 = .ok (.iconst 1, 1) := by decide +kernel
theorem dJ6_bitCount_0f7a4_3 : decode cJ6_bitCount_0f7a4 3 = .ok (.iushr, 1) := by decide +kernel
theorem dJ6_bitCount_0f7a4_4 : decode cJ6_bitCount_0f7a4 4 = .ok (.ldc_w 265, 3) := by decide +kernel
theorem dJ6_bitCount_0f7a4_7 : decode cJ6_bitCount_0f7a4 7 = .ok (.iand, 1) := by decide +kernel
theorem dJ6_bitCount_0f7a4_8 : decode cJ6_bitCount_0f7a4 8 = .ok (.isub, 1) := by decide +kernel
theorem dJ6_bitCount_0f7a4_9 : decode cJ6_bitCount_0f7a4 9 = .ok (.istore_n 0, 1) := by decide +kernel
theorem dJ6_bitCount_0f7a4_10 : decode cJ6_bitCount_0f7a4 10 = .ok (.iload_n 0, 1) := by decide +kernel
theorem dJ6_bitCount_0f7a4_11 : decode cJ6_bitCount_0f7a4 11 = .ok (.ldc_w 266, 3) := by decide +kernel
theorem dJ6_bitCount_0f7a4_14 : decode cJ6_bitCount_0f7a4 14 = .ok (.iand, 1) := by decide +kernel
theorem dJ6_bitCount_0f7a4_15 : decode cJ6_bitCount_0f7a4 15 = .ok (.iload_n 0, 1) := by decide +kernel
theorem dJ6_bitCount_0f7a4_16 : decode cJ6_bitCount_0f7a4 16 = .ok (.iconst 2, 1) := by decide +kernel
theorem dJ6_bitCount_0f7a4_17 : decode cJ6_bitCount_0f7a4 17 = .ok (.iushr, 1) := by decide +kernel
theorem dJ6_bitCount_0f7a4_18 : decode cJ6_bitCount_0f7a4 18 = .ok (.ldc_w 266, 3) := by decide +kernel
theorem dJ6_bitCount_0f7a4_21 : decode cJ6_bitCount_0f7a4 21 = .ok (.iand, 1) := by decide +kernel
theorem dJ6_bitCount_0f7a4_22 : decode cJ6_bitCount_0f7a4 22 = .ok (.iadd, 1) := by decide +kernel
theorem dJ6_bitCount_0f7a4_23 : decode cJ6_bitCount_0f7a4 23 = .ok (.istore_n 0, 1) := by decide +kernel
theorem dJ6_bitCount_0f7a4_24 : decode cJ6_bitCount_0f7a4 24 = .ok (.iload_n 0, 1) := by decide +kernel
theorem dJ6_bitCount_0f7a4_25 : decode cJ6_bitCount_0f7a4 25 = .ok (.iload_n 0, 1) := by decide +kernel
theorem dJ6_bitCount_0f7a4_26 : decode cJ6_bitCount_0f7a4 26 = .ok (.iconst 4, 1) := by decide +kernel
theorem dJ6_bitCount_0f7a4_27 : decode cJ6_bitCount_0f7a4 27 = .ok (.iushr, 1) := by decide +kernel
theorem dJ6_bitCount_0f7a4_28 : decode cJ6_bitCount_0f7a4 28 = .ok (.iadd, 1) := by decide +kernel
theorem dJ6_bitCount_0f7a4_29 : decode cJ6_bitCount_0f7a4 29 = .ok (.ldc_w 267, 3) := by decide +kernel
theorem dJ6_bitCount_0f7a4_32 : decode cJ6_bitCount_0f7a4 32 = .ok (.iand, 1) := by decide +kernel
theorem dJ6_bitCount_0f7a4_33 : decode cJ6_bitCount_0f7a4 33 = .ok (.istore_n 0, 1) := by decide +kernel
theorem dJ6_bitCount_0f7a4_34 : decode cJ6_bitCount_0f7a4 34 = .ok (.iload_n 0, 1) := by decide +kernel
theorem dJ6_bitCount_0f7a4_35 : decode cJ6_bitCount_0f7a4 35 = .ok (.iload_n 0, 1) := by decide +kernel
theorem dJ6_bitCount_0f7a4_36 : decode cJ6_bitCount_0f7a4 36 = .ok (.bipush 8, 2) := by decide +kernel
theorem dJ6_bitCount_0f7a4_38 : decode cJ6_bitCount_0f7a4 38 = .ok (.iushr, 1) := by decide +kernel
theorem dJ6_bitCount_0f7a4_39 : decode cJ6_bitCount_0f7a4 39 = .ok (.iadd, 1) := by decide +kernel
theorem dJ6_bitCount_0f7a4_40 : decode cJ6_bitCount_0f7a4 40 = .ok (.istore_n 0, 1) := by decide +kernel
theorem dJ6_bitCount_0f7a4_41 : decode cJ6_bitCount_0f7a4 41 = .ok (.iload_n 0, 1) := by decide +kernel
theorem dJ6_bitCount_0f7a4_42 : decode cJ6_bitCount_0f7a4 42 = .ok (.iload_n 0, 1) := by decide +kernel
theorem dJ6_bitCount_0f7a4_43 : decode cJ6_bitCount_0f7a4 43 = .ok (.bipush 16, 2) := by decide +kernel
theorem dJ6_bitCount_0f7a4_45 : decode cJ6_bitCount_0f7a4 45 = .ok (.iushr, 1) := by decide +kernel
theorem dJ6_bitCount_0f7a4_46 : decode cJ6_bitCount_0f7a4 46 = .ok (.iadd, 1) := by decide +kernel
theorem dJ6_bitCount_0f7a4_47 : decode cJ6_bitCount_0f7a4 47 = .ok (.istore_n 0, 1) := by decide +kernel
theorem dJ6_bitCount_0f7a4_48 : decode cJ6_bitCount_0f7a4 48 = .ok (.iload_n 0, 1) := by decide +kernel
theorem dJ6_bitCount_0f7a4_49 : decode cJ6_bitCount_0f7a4 49 = .ok (.bipush 63, 2) := by decide +kernel
theorem dJ6_bitCount_0f7a4_51 : decode cJ6_bitCount_0f7a4 51 = .ok (.iand, 1) := by decide +kernel
theorem dJ6_bitCount_0f7a4_52 : decode cJ6_bitCount_0f7a4 52 = .ok (.ireturn, 1) := by decide +kernel
theorem dJ9_max_7cf53_0 : decode cJ9_max_7cf53 0 = .ok (.iload_n 0, 1) := by decide +kernel
theorem dJ9_max_7cf53_1 : decode cJ9_max_7cf53 1 = .ok (.iload_n 1, 1) := by decide +kernel
theorem dJ9_max_7cf53_2 : decode cJ9_max_7cf53 2 = .ok (.if_icmp .lt 7, 3) := by decide +kernel
theorem dJ9_max_7cf53_5 : decode cJ9_max_7cf53 5 = .ok (.iload_n 0, 1) := by decide +kernel
theorem dJ9_max_7cf53_6 : decode cJ9_max_7cf53 6 = .ok (.goto 4, 3) := by decide +kernel
theorem dJ9_max_7cf53_9 : decode cJ9_max_7cf53 9 = .ok (.iload_n 1, 1) := by decide +kernel
theorem dJ9_max_7cf53_10 : decode cJ9_max_7cf53 10 = .ok (.ireturn, 1) := by decide +kernel
theorem dJ9_min_7cf53_0 : decode cJ9_min_7cf53 0 = .ok (.iload_n 0, 1) := by decide +kernel
theorem dJ9_min_7cf53_1 : decode cJ9_min_7cf53 1 = .ok (.iload_n 1, 1) := by decide +kernel
theorem dJ9_min_7cf53_2 : decode cJ9_min_7cf53 2 = .ok (.if_icmp .gt 7, 3) := by decide +kernel
theorem dJ9_min_7cf53_5 : decode cJ9_min_7cf53 5 = .ok (.iload_n 0, 1) := by decide +kernel
theorem dJ9_min_7cf53_6 : decode cJ9_min_7cf53 6 = .ok (.goto 4, 3) := by decide +kernel
theorem dJ9_min_7cf53_9 : decode cJ9_min_7cf53 9 = .ok (.iload_n 1, 1) := by decide +kernel
theorem dJ9_min_7cf53_10 : decode cJ9_min_7cf53 10 = .ok (.ireturn, 1) := by decide +kernel
theorem dL_begin_0 : decode cL_begin 0 = .ok (.aload_n 2, 1) := by decide +kernel
theorem dL_begin_1 : decode cL_begin 1 = .ok (.iconst 0, 1) := by decide +kernel
theorem dL_begin_2 : decode cL_begin 2 = .ok (.aload_n 0, 1) := by decide +kernel
theorem dL_begin_3 : decode cL_begin 3 = .ok (.iload_n 1, 1) := by decide +kernel
theorem dL_begin_4 : decode cL_begin 4 = .ok (.invokevirtual 7, 3) := by decide +kernel
theorem dL_begin_7 : decode cL_begin 7 = .ok (.i2l, 1) := by decide +kernel
theorem dL_begin_8 : decode cL_begin 8 = .ok (.lastore, 1) := by decide +kernel
theorem dL_begin_9 : decode cL_begin 9 = .ok (.goto 6, 3) := by decide +kernel
theorem dL_begin_12 : decode cL_begin 12 = .ok (.astore_n 3, 1) := by decide +kernel
theorem dL_begin_13 : decode cL_begin 13 = .ok (.iconst 1, 1) := by decide +kernel
theorem dL_begin_14 : decode cL_begin 14 = .ok (.ireturn, 1) := by decide +kernel
theorem dL_begin_15 : decode cL_begin 15 = .ok (.iconst 0, 1) := by decide +kernel
theorem dL_begin_16 : decode cL_begin 16 = .ok (.ireturn, 1) := by decide +kernel
theorem dL_write_0 : decode cL_write 0 = .ok (.aload 5, 2) := by decide +kernel
theorem dL_write_2 : decode cL_write 2 = .ok (.iconst 0, 1) := by decide +kernel
theorem dL_write_3 : decode cL_write 3 = .ok (.aload_n 0, 1) := by decide +kernel
theorem dL_write_4 : decode cL_write 4 = .ok (.iload_n 1, 1) := by decide +kernel
theorem dL_write_5 : decode cL_write 5 = .ok (.iload_n 2, 1) := by decide +kernel
theorem dL_write_6 : decode cL_write 6 = .ok (.iload_n 3, 1) := by decide +kernel
theorem dL_write_7 : decode cL_write 7 = .ok (.iload 4, 2) := by decide +kernel
theorem dL_write_9 : decode cL_write 9 = .ok (.invokevirtual 15, 3) := by decide +kernel
theorem dL_write_12 : decode cL_write 12 = .ok (.i2l, 1) := by decide +kernel
theorem dL_write_13 : decode cL_write 13 = .ok (.lastore, 1) := by decide +kernel
theorem dL_write_14 : decode cL_write 14 = .ok (.goto 11, 3) := by decide +kernel
theorem dL_write_17 : decode cL_write 17 = .ok (.astore 6, 2) := by decide +kernel
theorem dL_write_19 : decode cL_write 19 = .ok (.iconst 1, 1) := by decide +kernel
theorem dL_write_20 : decode cL_write 20 = .ok (.ireturn, 1) := by decide +kernel
theorem dL_write_21 : decode cL_write 21 = .ok (.astore 6, 2) := by decide +kernel
theorem dL_write_23 : decode cL_write 23 = .ok (.iconst 2, 1) := by decide +kernel
theorem dL_write_24 : decode cL_write 24 = .ok (.ireturn, 1) := by decide +kernel
theorem dL_write_25 : decode cL_write 25 = .ok (.iconst 0, 1) := by decide +kernel
theorem dL_write_26 : decode cL_write 26 = .ok (.ireturn, 1) := by decide +kernel
theorem dL_spoil_0 : decode cL_spoil 0 = .ok (.aload_n 3, 1) := by decide +kernel
theorem dL_spoil_1 : decode cL_spoil 1 = .ok (.iconst 0, 1) := by decide +kernel
theorem dL_spoil_2 : decode cL_spoil 2 = .ok (.aload_n 0, 1) := by decide +kernel
theorem dL_spoil_3 : decode cL_spoil 3 = .ok (.iload_n 1, 1) := by decide +kernel
theorem dL_spoil_4 : decode cL_spoil 4 = .ok (.iload_n 2, 1) := by decide +kernel
theorem dL_spoil_5 : decode cL_spoil 5 = .ok (.invokevirtual 21, 3) := by decide +kernel
theorem dL_spoil_8 : decode cL_spoil 8 = .ok (.i2l, 1) := by decide +kernel
theorem dL_spoil_9 : decode cL_spoil 9 = .ok (.lastore, 1) := by decide +kernel
theorem dL_spoil_10 : decode cL_spoil 10 = .ok (.goto 11, 3) := by decide +kernel
theorem dL_spoil_13 : decode cL_spoil 13 = .ok (.astore 4, 2) := by decide +kernel
theorem dL_spoil_15 : decode cL_spoil 15 = .ok (.iconst 1, 1) := by decide +kernel
theorem dL_spoil_16 : decode cL_spoil 16 = .ok (.ireturn, 1) := by decide +kernel
theorem dL_spoil_17 : decode cL_spoil 17 = .ok (.astore 4, 2) := by decide +kernel
theorem dL_spoil_19 : decode cL_spoil 19 = .ok (.iconst 2, 1) := by decide +kernel
theorem dL_spoil_20 : decode cL_spoil 20 = .ok (.ireturn, 1) := by decide +kernel
theorem dL_spoil_21 : decode cL_spoil 21 = .ok (.iconst 0, 1) := by decide +kernel
theorem dL_spoil_22 : decode cL_spoil 22 = .ok (.ireturn, 1) := by decide +kernel
theorem dL_replay_0 : decode cL_replay 0 = .ok (.aload_n 3, 1) := by decide +kernel
theorem dL_replay_1 : decode cL_replay 1 = .ok (.iconst 0, 1) := by decide +kernel
theorem dL_replay_2 : decode cL_replay 2 = .ok (.aload_n 0, 1) := by decide +kernel
theorem dL_replay_3 : decode cL_replay 3 = .ok (.iload_n 1, 1) := by decide +kernel
theorem dL_replay_4 : decode cL_replay 4 = .ok (.iload_n 2, 1) := by decide +kernel
theorem dL_replay_5 : decode cL_replay 5 = .ok (.invokevirtual 27, 3) := by decide +kernel
theorem dL_replay_8 : decode cL_replay 8 = .ok (.i2l, 1) := by decide +kernel
theorem dL_replay_9 : decode cL_replay 9 = .ok (.lastore, 1) := by decide +kernel
theorem dL_replay_10 : decode cL_replay 10 = .ok (.goto 11, 3) := by decide +kernel
theorem dL_replay_13 : decode cL_replay 13 = .ok (.astore 4, 2) := by decide +kernel
theorem dL_replay_15 : decode cL_replay 15 = .ok (.iconst 1, 1) := by decide +kernel
theorem dL_replay_16 : decode cL_replay 16 = .ok (.ireturn, 1) := by decide +kernel
theorem dL_replay_17 : decode cL_replay 17 = .ok (.astore 4, 2) := by decide +kernel
theorem dL_replay_19 : decode cL_replay 19 = .ok (.iconst 2, 1) := by decide +kernel
theorem dL_replay_20 : decode cL_replay 20 = .ok (.ireturn, 1) := by decide +kernel
theorem dL_replay_21 : decode cL_replay 21 = .ok (.iconst 0, 1) := by decide +kernel
theorem dL_replay_22 : decode cL_replay 22 = .ok (.ireturn, 1) := by decide +kernel
theorem dL_snapshot_0 : decode cL_snapshot 0 = .ok (.aload_n 2, 1) := by decide +kernel
theorem dL_snapshot_1 : decode cL_snapshot 1 = .ok (.iconst 0, 1) := by decide +kernel
theorem dL_snapshot_2 : decode cL_snapshot 2 = .ok (.aload_n 0, 1) := by decide +kernel
theorem dL_snapshot_3 : decode cL_snapshot 3 = .ok (.iload_n 1, 1) := by decide +kernel
theorem dL_snapshot_4 : decode cL_snapshot 4 = .ok (.invokevirtual 30, 3) := by decide +kernel
theorem dL_snapshot_7 : decode cL_snapshot 7 = .ok (.i2l, 1) := by decide +kernel
theorem dL_snapshot_8 : decode cL_snapshot 8 = .ok (.lastore, 1) := by decide +kernel
theorem dL_snapshot_9 : decode cL_snapshot 9 = .ok (.goto 9, 3) := by decide +kernel
theorem dL_snapshot_12 : decode cL_snapshot 12 = .ok (.astore_n 3, 1) := by decide +kernel
theorem dL_snapshot_13 : decode cL_snapshot 13 = .ok (.iconst 1, 1) := by decide +kernel
theorem dL_snapshot_14 : decode cL_snapshot 14 = .ok (.ireturn, 1) := by decide +kernel
theorem dL_snapshot_15 : decode cL_snapshot 15 = .ok (.astore_n 3, 1) := by decide +kernel
theorem dL_snapshot_16 : decode cL_snapshot 16 = .ok (.iconst 2, 1) := by decide +kernel
theorem dL_snapshot_17 : decode cL_snapshot 17 = .ok (.ireturn, 1) := by decide +kernel
theorem dL_snapshot_18 : decode cL_snapshot 18 = .ok (.iconst 0, 1) := by decide +kernel
theorem dL_snapshot_19 : decode cL_snapshot 19 = .ok (.ireturn, 1) := by decide +kernel
theorem dL_crash_0 : decode cL_crash 0 = .ok (.aload_n 2, 1) := by decide +kernel
theorem dL_crash_1 : decode cL_crash 1 = .ok (.iconst 0, 1) := by decide +kernel
theorem dL_crash_2 : decode cL_crash 2 = .ok (.aload_n 0, 1) := by decide +kernel
theorem dL_crash_3 : decode cL_crash 3 = .ok (.iload_n 1, 1) := by decide +kernel
theorem dL_crash_4 : decode cL_crash 4 = .ok (.invokevirtual 33, 3) := by decide +kernel
theorem dL_crash_7 : decode cL_crash 7 = .ok (.i2l, 1) := by decide +kernel
theorem dL_crash_8 : decode cL_crash 8 = .ok (.lastore, 1) := by decide +kernel
theorem dL_crash_9 : decode cL_crash 9 = .ok (.goto 6, 3) := by decide +kernel
theorem dL_crash_12 : decode cL_crash 12 = .ok (.astore_n 3, 1) := by decide +kernel
theorem dL_crash_13 : decode cL_crash 13 = .ok (.iconst 1, 1) := by decide +kernel
theorem dL_crash_14 : decode cL_crash 14 = .ok (.ireturn, 1) := by decide +kernel
theorem dL_crash_15 : decode cL_crash 15 = .ok (.iconst 0, 1) := by decide +kernel
theorem dL_crash_16 : decode cL_crash 16 = .ok (.ireturn, 1) := by decide +kernel
theorem dL_link_0 : decode cL_link 0 = .ok (.aload_n 3, 1) := by decide +kernel
theorem dL_link_1 : decode cL_link 1 = .ok (.iconst 0, 1) := by decide +kernel
theorem dL_link_2 : decode cL_link 2 = .ok (.aload_n 0, 1) := by decide +kernel
theorem dL_link_3 : decode cL_link 3 = .ok (.iload_n 1, 1) := by decide +kernel
theorem dL_link_4 : decode cL_link 4 = .ok (.iload_n 2, 1) := by decide +kernel
theorem dL_link_5 : decode cL_link 5 = .ok (.invokevirtual 36, 3) := by decide +kernel
theorem dL_link_8 : decode cL_link 8 = .ok (.i2l, 1) := by decide +kernel
theorem dL_link_9 : decode cL_link 9 = .ok (.lastore, 1) := by decide +kernel
theorem dL_link_10 : decode cL_link 10 = .ok (.goto 11, 3) := by decide +kernel
theorem dL_link_13 : decode cL_link 13 = .ok (.astore 4, 2) := by decide +kernel
theorem dL_link_15 : decode cL_link 15 = .ok (.iconst 1, 1) := by decide +kernel
theorem dL_link_16 : decode cL_link 16 = .ok (.ireturn, 1) := by decide +kernel
theorem dL_link_17 : decode cL_link 17 = .ok (.astore 4, 2) := by decide +kernel
theorem dL_link_19 : decode cL_link 19 = .ok (.iconst 2, 1) := by decide +kernel
theorem dL_link_20 : decode cL_link 20 = .ok (.ireturn, 1) := by decide +kernel
theorem dL_link_21 : decode cL_link 21 = .ok (.iconst 0, 1) := by decide +kernel
theorem dL_link_22 : decode cL_link 22 = .ok (.ireturn, 1) := by decide +kernel
theorem dL_order_0 : decode cL_order 0 = .ok (.aload_n 3, 1) := by decide +kernel
theorem dL_order_1 : decode cL_order 1 = .ok (.iconst 0, 1) := by decide +kernel
theorem dL_order_2 : decode cL_order 2 = .ok (.aload_n 0, 1) := by decide +kernel
theorem dL_order_3 : decode cL_order 3 = .ok (.iload_n 1, 1) := by decide +kernel
theorem dL_order_4 : decode cL_order 4 = .ok (.iload_n 2, 1) := by decide +kernel
theorem dL_order_5 : decode cL_order 5 = .ok (.invokevirtual 40, 3) := by decide +kernel
theorem dL_order_8 : decode cL_order 8 = .ok (.i2l, 1) := by decide +kernel
theorem dL_order_9 : decode cL_order 9 = .ok (.lastore, 1) := by decide +kernel
theorem dL_order_10 : decode cL_order 10 = .ok (.goto 11, 3) := by decide +kernel
theorem dL_order_13 : decode cL_order 13 = .ok (.astore 4, 2) := by decide +kernel
theorem dL_order_15 : decode cL_order 15 = .ok (.iconst 1, 1) := by decide +kernel
theorem dL_order_16 : decode cL_order 16 = .ok (.ireturn, 1) := by decide +kernel
theorem dL_order_17 : decode cL_order 17 = .ok (.astore 4, 2) := by decide +kernel
theorem dL_order_19 : decode cL_order 19 = .ok (.iconst 2, 1) := by decide +kernel
theorem dL_order_20 : decode cL_order 20 = .ok (.ireturn, 1) := by decide +kernel
theorem dL_order_21 : decode cL_order 21 = .ok (.iconst 0, 1) := by decide +kernel
theorem dL_order_22 : decode cL_order 22 = .ok (.ireturn, 1) := by decide +kernel
theorem dL_ship_0 : decode cL_ship 0 = .ok (.aload_n 3, 1) := by decide +kernel
theorem dL_ship_1 : decode cL_ship 1 = .ok (.iconst 0, 1) := by decide +kernel
theorem dL_ship_2 : decode cL_ship 2 = .ok (.aload_n 0, 1) := by decide +kernel
theorem dL_ship_3 : decode cL_ship 3 = .ok (.iload_n 1, 1) := by decide +kernel
theorem dL_ship_4 : decode cL_ship 4 = .ok (.iload_n 2, 1) := by decide +kernel
theorem dL_ship_5 : decode cL_ship 5 = .ok (.invokevirtual 43, 3) := by decide +kernel
theorem dL_ship_8 : decode cL_ship 8 = .ok (.i2l, 1) := by decide +kernel
theorem dL_ship_9 : decode cL_ship 9 = .ok (.lastore, 1) := by decide +kernel
theorem dL_ship_10 : decode cL_ship 10 = .ok (.goto 11, 3) := by decide +kernel
theorem dL_ship_13 : decode cL_ship 13 = .ok (.astore 4, 2) := by decide +kernel
theorem dL_ship_15 : decode cL_ship 15 = .ok (.iconst 1, 1) := by decide +kernel
theorem dL_ship_16 : decode cL_ship 16 = .ok (.ireturn, 1) := by decide +kernel
theorem dL_ship_17 : decode cL_ship 17 = .ok (.astore 4, 2) := by decide +kernel
theorem dL_ship_19 : decode cL_ship 19 = .ok (.iconst 2, 1) := by decide +kernel
theorem dL_ship_20 : decode cL_ship 20 = .ok (.ireturn, 1) := by decide +kernel
theorem dL_ship_21 : decode cL_ship 21 = .ok (.iconst 0, 1) := by decide +kernel
theorem dL_ship_22 : decode cL_ship 22 = .ok (.ireturn, 1) := by decide +kernel
theorem dL_hold_0 : decode cL_hold 0 = .ok (.aload_n 3, 1) := by decide +kernel
theorem dL_hold_1 : decode cL_hold 1 = .ok (.iconst 0, 1) := by decide +kernel
theorem dL_hold_2 : decode cL_hold 2 = .ok (.aload_n 0, 1) := by decide +kernel
theorem dL_hold_3 : decode cL_hold 3 = .ok (.iload_n 1, 1) := by decide +kernel
theorem dL_hold_4 : decode cL_hold 4 = .ok (.iload_n 2, 1) := by decide +kernel
theorem dL_hold_5 : decode cL_hold 5 = .ok (.invokevirtual 46, 3) := by decide +kernel
theorem dL_hold_8 : decode cL_hold 8 = .ok (.i2l, 1) := by decide +kernel
theorem dL_hold_9 : decode cL_hold 9 = .ok (.lastore, 1) := by decide +kernel
theorem dL_hold_10 : decode cL_hold 10 = .ok (.goto 7, 3) := by decide +kernel
theorem dL_hold_13 : decode cL_hold 13 = .ok (.astore 4, 2) := by decide +kernel
theorem dL_hold_15 : decode cL_hold 15 = .ok (.iconst 1, 1) := by decide +kernel
theorem dL_hold_16 : decode cL_hold 16 = .ok (.ireturn, 1) := by decide +kernel
theorem dL_hold_17 : decode cL_hold 17 = .ok (.iconst 0, 1) := by decide +kernel
theorem dL_hold_18 : decode cL_hold 18 = .ok (.ireturn, 1) := by decide +kernel
theorem dL_value_0 : decode cL_value 0 = .ok (.aload_n 2, 1) := by decide +kernel
theorem dL_value_1 : decode cL_value 1 = .ok (.iconst 0, 1) := by decide +kernel
theorem dL_value_2 : decode cL_value 2 = .ok (.aload_n 0, 1) := by decide +kernel
theorem dL_value_3 : decode cL_value 3 = .ok (.iload_n 1, 1) := by decide +kernel
theorem dL_value_4 : decode cL_value 4 = .ok (.invokevirtual 49, 3) := by decide +kernel
theorem dL_value_7 : decode cL_value 7 = .ok (.i2l, 1) := by decide +kernel
theorem dL_value_8 : decode cL_value 8 = .ok (.lastore, 1) := by decide +kernel
theorem dL_value_9 : decode cL_value 9 = .ok (.goto 6, 3) := by decide +kernel
theorem dL_value_12 : decode cL_value 12 = .ok (.astore_n 3, 1) := by decide +kernel
theorem dL_value_13 : decode cL_value 13 = .ok (.iconst 1, 1) := by decide +kernel
theorem dL_value_14 : decode cL_value 14 = .ok (.ireturn, 1) := by decide +kernel
theorem dL_value_15 : decode cL_value 15 = .ok (.iconst 0, 1) := by decide +kernel
theorem dL_value_16 : decode cL_value 16 = .ok (.ireturn, 1) := by decide +kernel
theorem dL_ahead_0 : decode cL_ahead 0 = .ok (.aload_n 2, 1) := by decide +kernel
theorem dL_ahead_1 : decode cL_ahead 1 = .ok (.iconst 0, 1) := by decide +kernel
theorem dL_ahead_2 : decode cL_ahead 2 = .ok (.aload_n 0, 1) := by decide +kernel
theorem dL_ahead_3 : decode cL_ahead 3 = .ok (.iload_n 1, 1) := by decide +kernel
theorem dL_ahead_4 : decode cL_ahead 4 = .ok (.invokevirtual 52, 3) := by decide +kernel
theorem dL_ahead_7 : decode cL_ahead 7 = .ok (.i2l, 1) := by decide +kernel
theorem dL_ahead_8 : decode cL_ahead 8 = .ok (.lastore, 1) := by decide +kernel
theorem dL_ahead_9 : decode cL_ahead 9 = .ok (.goto 6, 3) := by decide +kernel
theorem dL_ahead_12 : decode cL_ahead 12 = .ok (.astore_n 3, 1) := by decide +kernel
theorem dL_ahead_13 : decode cL_ahead 13 = .ok (.iconst 1, 1) := by decide +kernel
theorem dL_ahead_14 : decode cL_ahead 14 = .ok (.ireturn, 1) := by decide +kernel
theorem dL_ahead_15 : decode cL_ahead 15 = .ok (.iconst 0, 1) := by decide +kernel
theorem dL_ahead_16 : decode cL_ahead 16 = .ok (.ireturn, 1) := by decide +kernel
theorem dL_stop_0 : decode cL_stop 0 = .ok (.aload_n 2, 1) := by decide +kernel
theorem dL_stop_1 : decode cL_stop 1 = .ok (.iconst 0, 1) := by decide +kernel
theorem dL_stop_2 : decode cL_stop 2 = .ok (.aload_n 0, 1) := by decide +kernel
theorem dL_stop_3 : decode cL_stop 3 = .ok (.iload_n 1, 1) := by decide +kernel
theorem dL_stop_4 : decode cL_stop 4 = .ok (.invokevirtual 55, 3) := by decide +kernel
theorem dL_stop_7 : decode cL_stop 7 = .ok (.i2l, 1) := by decide +kernel
theorem dL_stop_8 : decode cL_stop 8 = .ok (.lastore, 1) := by decide +kernel
theorem dL_stop_9 : decode cL_stop 9 = .ok (.goto 6, 3) := by decide +kernel
theorem dL_stop_12 : decode cL_stop 12 = .ok (.astore_n 3, 1) := by decide +kernel
theorem dL_stop_13 : decode cL_stop 13 = .ok (.iconst 1, 1) := by decide +kernel
theorem dL_stop_14 : decode cL_stop 14 = .ok (.ireturn, 1) := by decide +kernel
theorem dL_stop_15 : decode cL_stop 15 = .ok (.iconst 0, 1) := by decide +kernel
theorem dL_stop_16 : decode cL_stop 16 = .ok (.ireturn, 1) := by decide +kernel
