/-! what stands at each place of the code, printed -/
theorem dX4_undo_0 : decode cX4_undo 0 = .ok (.aload_n 0, 1) := by decide +kernel
theorem dX4_undo_1 : decode cX4_undo 1 = .ok (.getfield 20, 3) := by decide +kernel
theorem dX4_undo_4 : decode cX4_undo 4 = .ok (.iconst 1, 1) := by decide +kernel
theorem dX4_undo_5 : decode cX4_undo 5 = .ok (.if_icmp .ge 13, 3) := by decide +kernel
theorem dX4_undo_8 : decode cX4_undo 8 = .ok (.new 69, 3) := by decide +kernel
theorem dX4_undo_11 : decode cX4_undo 11 = .ok (.dup, 1) := by decide +kernel
theorem dX4_undo_12 : decode cX4_undo 12 = .ok (.ldc 255, 2) := by decide +kernel
theorem dX4_undo_14 : decode cX4_undo 14 = .ok (.invokespecial 73, 3) := by decide +kernel
theorem dX4_undo_17 : decode cX4_undo 17 = .ok (.athrow, 1) := by decide +kernel
theorem dX4_undo_18 : decode cX4_undo 18 = .ok (.aload_n 0, 1) := by decide +kernel
theorem dX4_undo_19 : decode cX4_undo 19 = .ok (.dup, 1) := by decide +kernel
theorem dX4_undo_20 : decode cX4_undo 20 = .ok (.getfield 20, 3) := by decide +kernel
theorem dX4_undo_23 : decode cX4_undo 23 = .ok (.iconst 1, 1) := by decide +kernel
theorem dX4_undo_24 : decode cX4_undo 24 = .ok (.isub, 1) := by decide +kernel
theorem dX4_undo_25 : decode cX4_undo 25 = .ok (.putfield 20, 3) := by decide +kernel
theorem dX4_undo_28 : decode cX4_undo 28 = .ok (.aload_n 0, 1) := by decide +kernel
theorem dX4_undo_29 : decode cX4_undo 29 = .ok (.getfield 10, 3) := by decide +kernel
theorem dX4_undo_32 : decode cX4_undo 32 = .ok (.aload_n 0, 1) := by decide +kernel
theorem dX4_undo_33 : decode cX4_undo 33 = .ok (.getfield 16, 3) := by decide +kernel
theorem dX4_undo_36 : decode cX4_undo 36 = .ok (.aload_n 0, 1) := by decide +kernel
theorem dX4_undo_37 : decode cX4_undo 37 = .ok (.getfield 20, 3) := by decide +kernel
theorem dX4_undo_40 : decode cX4_undo 40 = .ok (.aaload, 1) := by decide +kernel
theorem dX4_undo_41 : decode cX4_undo 41 = .ok (.invokevirtual 257, 3) := by decide +kernel
theorem dX4_undo_44 : decode cX4_undo 44 = .ok (.aload_n 0, 1) := by decide +kernel
theorem dX4_undo_45 : decode cX4_undo 45 = .ok (.getfield 20, 3) := by decide +kernel
theorem dX4_undo_48 : decode cX4_undo 48 = .ok (.ireturn, 1) := by decide +kernel
theorem dX4_digest_0 : decode cX4_digest 0 = .ok (.ldc2_w 261, 3) := by decide +kernel
theorem dX4_digest_3 : decode cX4_digest 3 = .ok (.aload_n 0, 1) := by decide +kernel
theorem dX4_digest_4 : decode cX4_digest 4 = .ok (.getfield 27, 3) := by decide +kernel
theorem dX4_digest_7 : decode cX4_digest 7 = .ok (.getfield 263, 3) := by decide +kernel
theorem dX4_digest_10 : decode cX4_digest 10 = .ok (.i2l, 1) := by decide +kernel
theorem dX4_digest_11 : decode cX4_digest 11 = .ok (.invokestatic 266, 3) := by decide +kernel
theorem dX4_digest_14 : decode cX4_digest 14 = .ok (.lstore_n 1, 1) := by decide +kernel
theorem dX4_digest_15 : decode cX4_digest 15 = .ok (.iconst 0, 1) := by decide +kernel
theorem dX4_digest_16 : decode cX4_digest 16 = .ok (.istore_n 3, 1) := by decide +kernel
theorem dX4_digest_17 : decode cX4_digest 17 = .ok (.iload_n 3, 1) := by decide +kernel
theorem dX4_digest_18 : decode cX4_digest 18 = .ok (.bipush 7, 2) := by decide +kernel
theorem dX4_digest_20 : decode cX4_digest 20 = .ok (.if_icmp .ge 20, 3) := by decide +kernel
theorem dX4_digest_23 : decode cX4_digest 23 = .ok (.lload_n 1, 1) := by decide +kernel
theorem dX4_digest_24 : decode cX4_digest 24 = .ok (.aload_n 0, 1) := by decide +kernel
theorem dX4_digest_25 : decode cX4_digest 25 = .ok (.iload_n 3, 1) := by decide +kernel
theorem dX4_digest_26 : decode cX4_digest 26 = .ok (.invokevirtual 270, 3) := by decide +kernel
theorem dX4_digest_29 : decode cX4_digest 29 = .ok (.i2l, 1) := by decide +kernel
theorem dX4_digest_30 : decode cX4_digest 30 = .ok (.invokestatic 266, 3) := by decide +kernel
theorem dX4_digest_33 : decode cX4_digest 33 = .ok (.lstore_n 1, 1) := by decide +kernel
theorem dX4_digest_34 : decode cX4_digest 34 = .ok (.iinc 3 1, 3) := by decide +kernel
theorem dX4_digest_37 : decode cX4_digest 37 = .ok (.goto (-20), 3) := by decide +kernel
theorem dX4_digest_40 : decode cX4_digest 40 = .ok (.aload_n 0, 1) := by decide +kernel
theorem dX4_digest_41 : decode cX4_digest 41 = .ok (.lload_n 1, 1) := by decide +kernel
theorem dX4_digest_42 : decode cX4_digest 42 = .ok (.invokevirtual 273, 3) := by decide +kernel
theorem dX4_digest_45 : decode cX4_digest 45 = .ok (.lstore_n 1, 1) := by decide +kernel
theorem dX4_digest_46 : decode cX4_digest 46 = .ok (.aload_n 0, 1) := by decide +kernel
theorem dX4_digest_47 : decode cX4_digest 47 = .ok (.lload_n 1, 1) := by decide +kernel
theorem dX4_digest_48 : decode cX4_digest 48 = .ok (.invokevirtual 277, 3) := by decide +kernel
theorem dX4_digest_51 : decode cX4_digest 51 = .ok (.lstore_n 1, 1) := by decide +kernel
theorem dX4_digest_52 : decode cX4_digest 52 = .ok (.aload_n 0, 1) := by decide +kernel
theorem dX4_digest_53 : decode cX4_digest 53 = .ok (.lload_n 1, 1) := by decide +kernel
theorem dX4_digest_54 : decode cX4_digest 54 = .ok (.invokevirtual 280, 3) := by decide +kernel
theorem dX4_digest_57 : decode cX4_digest 57 = .ok (.lstore_n 1, 1) := by decide +kernel
theorem dX4_digest_58 : decode cX4_digest 58 = .ok (.lload_n 1, 1) := by decide +kernel
theorem dX4_digest_59 : decode cX4_digest 59 = .ok (.aload_n 0, 1) := by decide +kernel
theorem dX4_digest_60 : decode cX4_digest 60 = .ok (.getfield 20, 3) := by decide +kernel
theorem dX4_digest_63 : decode cX4_digest 63 = .ok (.i2l, 1) := by decide +kernel
theorem dX4_digest_64 : decode cX4_digest 64 = .ok (.invokestatic 266, 3) := by decide +kernel
theorem dX4_digest_67 : decode cX4_digest 67 = .ok (.lreturn, 1) := by decide +kernel
theorem dX4_mix_0 : decode cX4_mix 0 = .ok (.ldc2_w 283, 3) := by decide +kernel
theorem dX4_mix_3 : decode cX4_mix 3 = .ok (.lload_n 0, 1) := by decide +kernel
theorem dX4_mix_4 : decode cX4_mix 4 = .ok (.lmul, 1) := by decide +kernel
theorem dX4_mix_5 : decode cX4_mix 5 = .ok (.lload_n 2, 1) := by decide +kernel
theorem dX4_mix_6 : decode cX4_mix 6 = .ok (.ladd, 1) := by decide +kernel
theorem dX4_mix_7 : decode cX4_mix 7 = .ok (.lreturn, 1) := by decide +kernel
theorem dX4_mixOrders_0 : decode cX4_mixOrders 0 = .ok (.lload_n 1, 1) := by decide +kernel
theorem dX4_mixOrders_1 : decode cX4_mixOrders 1 = .ok (.lstore_n 3, 1) := by decide +kernel
theorem dX4_mixOrders_2 : decode cX4_mixOrders 2 = .ok (.aload_n 0, 1) := by decide +kernel
theorem dX4_mixOrders_3 : decode cX4_mixOrders 3 = .ok (.getfield 10, 3) := by decide +kernel
theorem dX4_mixOrders_6 : decode cX4_mixOrders 6 = .ok (.getfield 45, 3) := by decide +kernel
theorem dX4_mixOrders_9 : decode cX4_mixOrders 9 = .ok (.getfield 170, 3) := by decide +kernel
theorem dX4_mixOrders_12 : decode cX4_mixOrders 12 = .ok (.istore 5, 2) := by decide +kernel
theorem dX4_mixOrders_14 : decode cX4_mixOrders 14 = .ok (.iload 5, 2) := by decide +kernel
theorem dX4_mixOrders_16 : decode cX4_mixOrders 16 = .ok (.aload_n 0, 1) := by decide +kernel
theorem dX4_mixOrders_17 : decode cX4_mixOrders 17 = .ok (.getfield 10, 3) := by decide +kernel
theorem dX4_mixOrders_20 : decode cX4_mixOrders 20 = .ok (.getfield 45, 3) := by decide +kernel
theorem dX4_mixOrders_23 : decode cX4_mixOrders 23 = .ok (.getfield 173, 3) := by decide +kernel
theorem dX4_mixOrders_26 : decode cX4_mixOrders 26 = .ok (.if_icmp .ge 39, 3) := by decide +kernel
theorem dX4_mixOrders_29 : decode cX4_mixOrders 29 = .ok (.iconst 0, 1) := by decide +kernel
theorem dX4_mixOrders_30 : decode cX4_mixOrders 30 = .ok (.istore 6, 2) := by decide +kernel
theorem dX4_mixOrders_32 : decode cX4_mixOrders 32 = .ok (.iload 6, 2) := by decide +kernel
theorem dX4_mixOrders_34 : decode cX4_mixOrders 34 = .ok (.bipush 6, 2) := by decide +kernel
theorem dX4_mixOrders_36 : decode cX4_mixOrders 36 = .ok (.if_icmp .ge 23, 3) := by decide +kernel
theorem dX4_mixOrders_39 : decode cX4_mixOrders 39 = .ok (.lload_n 3, 1) := by decide +kernel
theorem dX4_mixOrders_40 : decode cX4_mixOrders 40 = .ok (.aload_n 0, 1) := by decide +kernel
theorem dX4_mixOrders_41 : decode cX4_mixOrders 41 = .ok (.iload 5, 2) := by decide +kernel
theorem dX4_mixOrders_43 : decode cX4_mixOrders 43 = .ok (.iload 6, 2) := by decide +kernel
theorem dX4_mixOrders_45 : decode cX4_mixOrders 45 = .ok (.invokevirtual 285, 3) := by decide +kernel
theorem dX4_mixOrders_48 : decode cX4_mixOrders 48 = .ok (.i2l, 1) := by decide +kernel
theorem dX4_mixOrders_49 : decode cX4_mixOrders 49 = .ok (.invokestatic 266, 3) := by decide +kernel
theorem dX4_mixOrders_52 : decode cX4_mixOrders 52 = .ok (.lstore_n 3, 1) := by decide +kernel
theorem dX4_mixOrders_53 : decode cX4_mixOrders 53 = .ok (.iinc 6 1, 3) := by decide +kernel
theorem dX4_mixOrders_56 : decode cX4_mixOrders 56 = .ok (.goto (-24), 3) := by decide +kernel
theorem dX4_mixOrders_59 : decode cX4_mixOrders 59 = .ok (.iinc 5 1, 3) := by decide +kernel
theorem dX4_mixOrders_62 : decode cX4_mixOrders 62 = .ok (.goto (-48), 3) := by decide +kernel
theorem dX4_mixOrders_65 : decode cX4_mixOrders 65 = .ok (.lload_n 3, 1) := by decide +kernel
theorem dX4_mixOrders_66 : decode cX4_mixOrders 66 = .ok (.lreturn, 1) := by decide +kernel
theorem dX4_mixShips_0 : decode cX4_mixShips 0 = .ok (.lload_n 1, 1) := by decide +kernel
theorem dX4_mixShips_1 : decode cX4_mixShips 1 = .ok (.lstore_n 3, 1) := by decide +kernel
theorem dX4_mixShips_2 : decode cX4_mixShips 2 = .ok (.iconst 0, 1) := by decide +kernel
theorem dX4_mixShips_3 : decode cX4_mixShips 3 = .ok (.istore 5, 2) := by decide +kernel
theorem dX4_mixShips_5 : decode cX4_mixShips 5 = .ok (.iload 5, 2) := by decide +kernel
theorem dX4_mixShips_7 : decode cX4_mixShips 7 = .ok (.iconst 2, 1) := by decide +kernel
theorem dX4_mixShips_8 : decode cX4_mixShips 8 = .ok (.if_icmp .ge 69, 3) := by decide +kernel
theorem dX4_mixShips_11 : decode cX4_mixShips 11 = .ok (.iconst 0, 1) := by decide +kernel
theorem dX4_mixShips_12 : decode cX4_mixShips 12 = .ok (.istore 6, 2) := by decide +kernel
theorem dX4_mixShips_14 : decode cX4_mixShips 14 = .ok (.iload 6, 2) := by decide +kernel
theorem dX4_mixShips_16 : decode cX4_mixShips 16 = .ok (.bipush 6, 2) := by decide +kernel
theorem dX4_mixShips_18 : decode cX4_mixShips 18 = .ok (.if_icmp .ge 23, 3) := by decide +kernel
theorem dX4_mixShips_21 : decode cX4_mixShips 21 = .ok (.lload_n 3, 1) := by decide +kernel
theorem dX4_mixShips_22 : decode cX4_mixShips 22 = .ok (.aload_n 0, 1) := by decide +kernel
theorem dX4_mixShips_23 : decode cX4_mixShips 23 = .ok (.iload 5, 2) := by decide +kernel
theorem dX4_mixShips_25 : decode cX4_mixShips 25 = .ok (.iload 6, 2) := by decide +kernel
theorem dX4_mixShips_27 : decode cX4_mixShips 27 = .ok (.invokevirtual 288, 3) := by decide +kernel
theorem dX4_mixShips_30 : decode cX4_mixShips 30 = .ok (.i2l, 1) := by decide +kernel
theorem dX4_mixShips_31 : decode cX4_mixShips 31 = .ok (.invokestatic 266, 3) := by decide +kernel
theorem dX4_mixShips_34 : decode cX4_mixShips 34 = .ok (.lstore_n 3, 1) := by decide +kernel
theorem dX4_mixShips_35 : decode cX4_mixShips 35 = .ok (.iinc 6 1, 3) := by decide +kernel
theorem dX4_mixShips_38 : decode cX4_mixShips 38 = .ok (.goto (-24), 3) := by decide +kernel
theorem dX4_mixShips_41 : decode cX4_mixShips 41 = .ok (.iconst 0, 1) := by decide +kernel
theorem dX4_mixShips_42 : decode cX4_mixShips 42 = .ok (.istore 6, 2) := by decide +kernel
theorem dX4_mixShips_44 : decode cX4_mixShips 44 = .ok (.iload 6, 2) := by decide +kernel
theorem dX4_mixShips_46 : decode cX4_mixShips 46 = .ok (.bipush 8, 2) := by decide +kernel
theorem dX4_mixShips_48 : decode cX4_mixShips 48 = .ok (.if_icmp .ge 23, 3) := by decide +kernel
theorem dX4_mixShips_51 : decode cX4_mixShips 51 = .ok (.lload_n 3, 1) := by decide +kernel
theorem dX4_mixShips_52 : decode cX4_mixShips 52 = .ok (.aload_n 0, 1) := by decide +kernel
theorem dX4_mixShips_53 : decode cX4_mixShips 53 = .ok (.iload 5, 2) := by decide +kernel
theorem dX4_mixShips_55 : decode cX4_mixShips 55 = .ok (.iload 6, 2) := by decide +kernel
theorem dX4_mixShips_57 : decode cX4_mixShips 57 = .ok (.invokevirtual 291, 3) := by decide +kernel
theorem dX4_mixShips_60 : decode cX4_mixShips 60 = .ok (.i2l, 1) := by decide +kernel
theorem dX4_mixShips_61 : decode cX4_mixShips 61 = .ok (.invokestatic 266, 3) := by decide +kernel
theorem dX4_mixShips_64 : decode cX4_mixShips 64 = .ok (.lstore_n 3, 1) := by decide +kernel
theorem dX4_mixShips_65 : decode cX4_mixShips 65 = .ok (.iinc 6 1, 3) := by decide +kernel
theorem dX4_mixShips_68 : decode cX4_mixShips 68 = .ok (.goto (-24), 3) := by decide +kernel
theorem dX4_mixShips_71 : decode cX4_mixShips 71 = .ok (.iinc 5 1, 3) := by decide +kernel
theorem dX4_mixShips_74 : decode cX4_mixShips 74 = .ok (.goto (-69), 3) := by decide +kernel
theorem dX4_mixShips_77 : decode cX4_mixShips 77 = .ok (.lload_n 3, 1) := by decide +kernel
theorem dX4_mixShips_78 : decode cX4_mixShips 78 = .ok (.lreturn, 1) := by decide +kernel
theorem dX4_mixForecasts_0 : decode cX4_mixForecasts 0 = .ok (.lload_n 1, 1) := by decide +kernel
theorem dX4_mixForecasts_1 : decode cX4_mixForecasts 1 = .ok (.lstore_n 3, 1) := by decide +kernel
theorem dX4_mixForecasts_2 : decode cX4_mixForecasts 2 = .ok (.iconst 0, 1) := by decide +kernel
theorem dX4_mixForecasts_3 : decode cX4_mixForecasts 3 = .ok (.istore 5, 2) := by decide +kernel
theorem dX4_mixForecasts_5 : decode cX4_mixForecasts 5 = .ok (.iload 5, 2) := by decide +kernel
theorem dX4_mixForecasts_7 : decode cX4_mixForecasts 7 = .ok (.iconst 2, 1) := by decide +kernel
theorem dX4_mixForecasts_8 : decode cX4_mixForecasts 8 = .ok (.if_icmp .ge 21, 3) := by decide +kernel
theorem dX4_mixForecasts_11 : decode cX4_mixForecasts 11 = .ok (.lload_n 3, 1) := by decide +kernel
theorem dX4_mixForecasts_12 : decode cX4_mixForecasts 12 = .ok (.aload_n 0, 1) := by decide +kernel
theorem dX4_mixForecasts_13 : decode cX4_mixForecasts 13 = .ok (.iload 5, 2) := by decide +kernel
theorem dX4_mixForecasts_15 : decode cX4_mixForecasts 15 = .ok (.invokevirtual 294, 3) := by decide +kernel
theorem dX4_mixForecasts_18 : decode cX4_mixForecasts 18 = .ok (.i2l, 1) := by decide +kernel
theorem dX4_mixForecasts_19 : decode cX4_mixForecasts 19 = .ok (.invokestatic 266, 3) := by decide +kernel
theorem dX4_mixForecasts_22 : decode cX4_mixForecasts 22 = .ok (.lstore_n 3, 1) := by decide +kernel
theorem dX4_mixForecasts_23 : decode cX4_mixForecasts 23 = .ok (.iinc 5 1, 3) := by decide +kernel
theorem dX4_mixForecasts_26 : decode cX4_mixForecasts 26 = .ok (.goto (-21), 3) := by decide +kernel
theorem dX4_mixForecasts_29 : decode cX4_mixForecasts 29 = .ok (.lload_n 3, 1) := by decide +kernel
theorem dX4_mixForecasts_30 : decode cX4_mixForecasts 30 = .ok (.aload_n 0, 1) := by decide +kernel
theorem dX4_mixForecasts_31 : decode cX4_mixForecasts 31 = .ok (.invokevirtual 297, 3) := by decide +kernel
theorem dX4_mixForecasts_34 : decode cX4_mixForecasts 34 = .ok (.i2l, 1) := by decide +kernel
theorem dX4_mixForecasts_35 : decode cX4_mixForecasts 35 = .ok (.invokestatic 266, 3) := by decide +kernel
theorem dX4_mixForecasts_38 : decode cX4_mixForecasts 38 = .ok (.lstore_n 3, 1) := by decide +kernel
theorem dX4_mixForecasts_39 : decode cX4_mixForecasts 39 = .ok (.iconst 0, 1) := by decide +kernel
theorem dX4_mixForecasts_40 : decode cX4_mixForecasts 40 = .ok (.istore 5, 2) := by decide +kernel
theorem dX4_mixForecasts_42 : decode cX4_mixForecasts 42 = .ok (.iload 5, 2) := by decide +kernel
theorem dX4_mixForecasts_44 : decode cX4_mixForecasts 44 = .ok (.bipush 8, 2) := by decide +kernel
theorem dX4_mixForecasts_46 : decode cX4_mixForecasts 46 = .ok (.if_icmp .ge 31, 3) := by decide +kernel
theorem dX4_mixForecasts_49 : decode cX4_mixForecasts 49 = .ok (.lload_n 3, 1) := by decide +kernel
theorem dX4_mixForecasts_50 : decode cX4_mixForecasts 50 = .ok (.aload_n 0, 1) := by decide +kernel
theorem dX4_mixForecasts_51 : decode cX4_mixForecasts 51 = .ok (.aload_n 0, 1) := by decide +kernel
theorem dX4_mixForecasts_52 : decode cX4_mixForecasts 52 = .ok (.getfield 10, 3) := by decide +kernel
theorem dX4_mixForecasts_55 : decode cX4_mixForecasts 55 = .ok (.getfield 45, 3) := by decide +kernel
theorem dX4_mixForecasts_58 : decode cX4_mixForecasts 58 = .ok (.getfield 173, 3) := by decide +kernel
theorem dX4_mixForecasts_61 : decode cX4_mixForecasts 61 = .ok (.iload 5, 2) := by decide +kernel
theorem dX4_mixForecasts_63 : decode cX4_mixForecasts 63 = .ok (.invokevirtual 300, 3) := by decide +kernel
theorem dX4_mixForecasts_66 : decode cX4_mixForecasts 66 = .ok (.i2l, 1) := by decide +kernel
theorem dX4_mixForecasts_67 : decode cX4_mixForecasts 67 = .ok (.invokestatic 266, 3) := by decide +kernel
theorem dX4_mixForecasts_70 : decode cX4_mixForecasts 70 = .ok (.lstore_n 3, 1) := by decide +kernel
theorem dX4_mixForecasts_71 : decode cX4_mixForecasts 71 = .ok (.iinc 5 1, 3) := by decide +kernel
theorem dX4_mixForecasts_74 : decode cX4_mixForecasts 74 = .ok (.goto (-32), 3) := by decide +kernel
theorem dX4_mixForecasts_77 : decode cX4_mixForecasts 77 = .ok (.lload_n 3, 1) := by decide +kernel
theorem dX4_mixForecasts_78 : decode cX4_mixForecasts 78 = .ok (.lreturn, 1) := by decide +kernel
theorem dX4_isOrder_0 : decode cX4_isOrder 0 = .ok (.iload_n 0, 1) := by decide +kernel
theorem dX4_isOrder_1 : decode cX4_isOrder 1 = .ok (.ifCond .lt 49, 3) := by decide +kernel
theorem dX4_isOrder_4 : decode cX4_isOrder 4 = .ok (.iload_n 0, 1) := by decide +kernel
theorem dX4_isOrder_5 : decode cX4_isOrder 5 = .ok (.iconst 4, 1) := by decide +kernel
theorem dX4_isOrder_6 : decode cX4_isOrder 6 = .ok (.if_icmp .gt 44, 3) := by decide +kernel
theorem dX4_isOrder_9 : decode cX4_isOrder 9 = .ok (.iload_n 1, 1) := by decide +kernel
theorem dX4_isOrder_10 : decode cX4_isOrder 10 = .ok (.invokestatic 303, 3) := by decide +kernel
theorem dX4_isOrder_13 : decode cX4_isOrder 13 = .ok (.ifCond .eq 37, 3) := by decide +kernel
theorem dX4_isOrder_16 : decode cX4_isOrder 16 = .ok (.iload_n 2, 1) := by decide +kernel
theorem dX4_isOrder_17 : decode cX4_isOrder 17 = .ok (.invokestatic 303, 3) := by decide +kernel
theorem dX4_isOrder_20 : decode cX4_isOrder 20 = .ok (.ifCond .eq 30, 3) := by decide +kernel
theorem dX4_isOrder_23 : decode cX4_isOrder 23 = .ok (.iload_n 3, 1) := by decide +kernel
theorem dX4_isOrder_24 : decode cX4_isOrder 24 = .ok (.iconst 1, 1) := by decide +kernel
theorem dX4_isOrder_25 : decode cX4_isOrder 25 = .ok (.if_icmp .lt 25, 3) := by decide +kernel
theorem dX4_isOrder_28 : decode cX4_isOrder 28 = .ok (.iload_n 3, 1) := by decide +kernel
theorem dX4_isOrder_29 : decode cX4_isOrder 29 = .ok (.bipush 99, 2) := by decide +kernel
theorem dX4_isOrder_31 : decode cX4_isOrder 31 = .ok (.if_icmp .gt 19, 3) := by decide +kernel
theorem dX4_isOrder_34 : decode cX4_isOrder 34 = .ok (.iload_n 0, 1) := by decide +kernel
theorem dX4_isOrder_35 : decode cX4_isOrder 35 = .ok (.invokestatic 307, 3) := by decide +kernel
theorem dX4_isOrder_38 : decode cX4_isOrder 38 = .ok (.ifCond .eq 8, 3) := by decide +kernel
theorem dX4_isOrder_41 : decode cX4_isOrder 41 = .ok (.iload_n 1, 1) := by decide +kernel
theorem dX4_isOrder_42 : decode cX4_isOrder 42 = .ok (.iload_n 2, 1) := by decide +kernel
theorem dX4_isOrder_43 : decode cX4_isOrder 43 = .ok (.if_icmp .eq 7, 3) := by decide +kernel
theorem dX4_isOrder_46 : decode cX4_isOrder 46 = .ok (.iconst 1, 1) := by decide +kernel
theorem dX4_isOrder_47 : decode cX4_isOrder 47 = .ok (.goto 4, 3) := by decide +kernel
theorem dX4_isOrder_50 : decode cX4_isOrder 50 = .ok (.iconst 0, 1) := by decide +kernel
theorem dX4_isOrder_51 : decode cX4_isOrder 51 = .ok (.ireturn, 1) := by decide +kernel
theorem dX4_usesHoldB_0 : decode cX4_usesHoldB 0 = .ok (.iload_n 0, 1) := by decide +kernel
theorem dX4_usesHoldB_1 : decode cX4_usesHoldB 1 = .ok (.iconst 2, 1) := by decide +kernel
theorem dX4_usesHoldB_2 : decode cX4_usesHoldB 2 = .ok (.if_icmp .lt 7, 3) := by decide +kernel
theorem dX4_usesHoldB_5 : decode cX4_usesHoldB 5 = .ok (.iconst 1, 1) := by decide +kernel
theorem dX4_usesHoldB_6 : decode cX4_usesHoldB 6 = .ok (.goto 4, 3) := by decide +kernel
theorem dX4_usesHoldB_9 : decode cX4_usesHoldB 9 = .ok (.iconst 0, 1) := by decide +kernel
theorem dX4_usesHoldB_10 : decode cX4_usesHoldB 10 = .ok (.ireturn, 1) := by decide +kernel
theorem dX4_isHold_0 : decode cX4_isHold 0 = .ok (.iload_n 0, 1) := by decide +kernel
theorem dX4_isHold_1 : decode cX4_isHold 1 = .ok (.ifCond .lt 13, 3) := by decide +kernel
theorem dX4_isHold_4 : decode cX4_isHold 4 = .ok (.iload_n 0, 1) := by decide +kernel
theorem dX4_isHold_5 : decode cX4_isHold 5 = .ok (.bipush 8, 2) := by decide +kernel
theorem dX4_isHold_7 : decode cX4_isHold 7 = .ok (.if_icmp .ge 7, 3) := by decide +kernel
theorem dX4_isHold_10 : decode cX4_isHold 10 = .ok (.iconst 1, 1) := by decide +kernel
theorem dX4_isHold_11 : decode cX4_isHold 11 = .ok (.goto 4, 3) := by decide +kernel
theorem dX4_isHold_14 : decode cX4_isHold 14 = .ok (.iconst 0, 1) := by decide +kernel
theorem dX4_isHold_15 : decode cX4_isHold 15 = .ok (.ireturn, 1) := by decide +kernel
theorem dX4_requireHold_0 : decode cX4_requireHold 0 = .ok (.iload_n 0, 1) := by decide +kernel
theorem dX4_requireHold_1 : decode cX4_requireHold 1 = .ok (.invokestatic 303, 3) := by decide +kernel
theorem dX4_requireHold_4 : decode cX4_requireHold 4 = .ok (.ifCond .ne 14, 3) := by decide +kernel
theorem dX4_requireHold_7 : decode cX4_requireHold 7 = .ok (.new 310, 3) := by decide +kernel
theorem dX4_requireHold_10 : decode cX4_requireHold 10 = .ok (.dup, 1) := by decide +kernel
theorem dX4_requireHold_11 : decode cX4_requireHold 11 = .ok (.ldc_w 312, 3) := by decide +kernel
theorem dX4_requireHold_14 : decode cX4_requireHold 14 = .ok (.invokespecial 314, 3) := by decide +kernel
theorem dX4_requireHold_17 : decode cX4_requireHold 17 = .ok (.athrow, 1) := by decide +kernel
theorem dX4_requireHold_18 : decode cX4_requireHold 18 = .ok (.return_, 1) := by decide +kernel
theorem dX4_requireShip_0 : decode cX4_requireShip 0 = .ok (.iload_n 0, 1) := by decide +kernel
theorem dX4_requireShip_1 : decode cX4_requireShip 1 = .ok (.ifCond .lt 8, 3) := by decide +kernel
theorem dX4_requireShip_4 : decode cX4_requireShip 4 = .ok (.iload_n 0, 1) := by decide +kernel
theorem dX4_requireShip_5 : decode cX4_requireShip 5 = .ok (.iconst 2, 1) := by decide +kernel
theorem dX4_requireShip_6 : decode cX4_requireShip 6 = .ok (.if_icmp .lt 14, 3) := by decide +kernel
theorem dX4_requireShip_9 : decode cX4_requireShip 9 = .ok (.new 310, 3) := by decide +kernel
theorem dX4_requireShip_12 : decode cX4_requireShip 12 = .ok (.dup, 1) := by decide +kernel
theorem dX4_requireShip_13 : decode cX4_requireShip 13 = .ok (.ldc_w 315, 3) := by decide +kernel
theorem dX4_requireShip_16 : decode cX4_requireShip 16 = .ok (.invokespecial 314, 3) := by decide +kernel
theorem dX4_requireShip_19 : decode cX4_requireShip 19 = .ok (.athrow, 1) := by decide +kernel
theorem dX4_requireShip_20 : decode cX4_requireShip 20 = .ok (.return_, 1) := by decide +kernel
theorem dX4_requireKept_0 : decode cX4_requireKept 0 = .ok (.aload_n 0, 1) := by decide +kernel
theorem dX4_requireKept_1 : decode cX4_requireKept 1 = .ok (.getfield 10, 3) := by decide +kernel
theorem dX4_requireKept_4 : decode cX4_requireKept 4 = .ok (.getfield 45, 3) := by decide +kernel
theorem dX4_requireKept_7 : decode cX4_requireKept 7 = .ok (.iload_n 1, 1) := by decide +kernel
theorem dX4_requireKept_8 : decode cX4_requireKept 8 = .ok (.invokevirtual 317, 3) := by decide +kernel
theorem dX4_requireKept_11 : decode cX4_requireKept 11 = .ok (.ifCond .ne 14, 3) := by decide +kernel
theorem dX4_requireKept_14 : decode cX4_requireKept 14 = .ok (.new 310, 3) := by decide +kernel
theorem dX4_requireKept_17 : decode cX4_requireKept 17 = .ok (.dup, 1) := by decide +kernel
theorem dX4_requireKept_18 : decode cX4_requireKept 18 = .ok (.ldc_w 320, 3) := by decide +kernel
theorem dX4_requireKept_21 : decode cX4_requireKept 21 = .ok (.invokespecial 314, 3) := by decide +kernel
theorem dX4_requireKept_24 : decode cX4_requireKept 24 = .ok (.athrow, 1) := by decide +kernel
theorem dX4_requireKept_25 : decode cX4_requireKept 25 = .ok (.return_, 1) := by decide +kernel
theorem dX4_saveState_0 : decode cX4_saveState 0 = .ok (.aload_n 0, 1) := by decide +kernel
theorem dX4_saveState_1 : decode cX4_saveState 1 = .ok (.getfield 20, 3) := by decide +kernel
theorem dX4_saveState_4 : decode cX4_saveState 4 = .ok (.iconst 4, 1) := by decide +kernel
theorem dX4_saveState_5 : decode cX4_saveState 5 = .ok (.if_icmp .lt 49, 3) := by decide +kernel
theorem dX4_saveState_8 : decode cX4_saveState 8 = .ok (.aload_n 0, 1) := by decide +kernel
theorem dX4_saveState_9 : decode cX4_saveState 9 = .ok (.getfield 16, 3) := by decide +kernel
theorem dX4_saveState_12 : decode cX4_saveState 12 = .ok (.iconst 0, 1) := by decide +kernel
theorem dX4_saveState_13 : decode cX4_saveState 13 = .ok (.aaload, 1) := by decide +kernel
theorem dX4_saveState_14 : decode cX4_saveState 14 = .ok (.astore_n 1, 1) := by decide +kernel
theorem dX4_saveState_15 : decode cX4_saveState 15 = .ok (.iconst 1, 1) := by decide +kernel
theorem dX4_saveState_16 : decode cX4_saveState 16 = .ok (.istore_n 2, 1) := by decide +kernel
theorem dX4_saveState_17 : decode cX4_saveState 17 = .ok (.iload_n 2, 1) := by decide +kernel
theorem dX4_saveState_18 : decode cX4_saveState 18 = .ok (.iconst 4, 1) := by decide +kernel
theorem dX4_saveState_19 : decode cX4_saveState 19 = .ok (.if_icmp .ge 23, 3) := by decide +kernel
theorem dX4_saveState_22 : decode cX4_saveState 22 = .ok (.aload_n 0, 1) := by decide +kernel
theorem dX4_saveState_23 : decode cX4_saveState 23 = .ok (.getfield 16, 3) := by decide +kernel
theorem dX4_saveState_26 : decode cX4_saveState 26 = .ok (.iload_n 2, 1) := by decide +kernel
theorem dX4_saveState_27 : decode cX4_saveState 27 = .ok (.iconst 1, 1) := by decide +kernel
theorem dX4_saveState_28 : decode cX4_saveState 28 = .ok (.isub, 1) := by decide +kernel
theorem dX4_saveState_29 : decode cX4_saveState 29 = .ok (.aload_n 0, 1) := by decide +kernel
theorem dX4_saveState_30 : decode cX4_saveState 30 = .ok (.getfield 16, 3) := by decide +kernel
theorem dX4_saveState_33 : decode cX4_saveState 33 = .ok (.iload_n 2, 1) := by decide +kernel
theorem dX4_saveState_34 : decode cX4_saveState 34 = .ok (.aaload, 1) := by decide +kernel
theorem dX4_saveState_35 : decode cX4_saveState 35 = .ok (.aastore, 1) := by decide +kernel
theorem dX4_saveState_36 : decode cX4_saveState 36 = .ok (.iinc 2 1, 3) := by decide +kernel
theorem dX4_saveState_39 : decode cX4_saveState 39 = .ok (.goto (-22), 3) := by decide +kernel
theorem dX4_saveState_42 : decode cX4_saveState 42 = .ok (.aload_n 0, 1) := by decide +kernel
theorem dX4_saveState_43 : decode cX4_saveState 43 = .ok (.getfield 16, 3) := by decide +kernel
theorem dX4_saveState_46 : decode cX4_saveState 46 = .ok (.iconst 3, 1) := by decide +kernel
theorem dX4_saveState_47 : decode cX4_saveState 47 = .ok (.aload_n 1, 1) := by decide +kernel
theorem dX4_saveState_48 : decode cX4_saveState 48 = .ok (.aastore, 1) := by decide +kernel
theorem dX4_saveState_49 : decode cX4_saveState 49 = .ok (.aload_n 0, 1) := by decide +kernel
theorem dX4_saveState_50 : decode cX4_saveState 50 = .ok (.iconst 3, 1) := by decide +kernel
theorem dX4_saveState_51 : decode cX4_saveState 51 = .ok (.putfield 20, 3) := by decide +kernel
theorem dX4_saveState_54 : decode cX4_saveState 54 = .ok (.aload_n 0, 1) := by decide +kernel
theorem dX4_saveState_55 : decode cX4_saveState 55 = .ok (.getfield 16, 3) := by decide +kernel
theorem dX4_saveState_58 : decode cX4_saveState 58 = .ok (.aload_n 0, 1) := by decide +kernel
theorem dX4_saveState_59 : decode cX4_saveState 59 = .ok (.getfield 20, 3) := by decide +kernel
theorem dX4_saveState_62 : decode cX4_saveState 62 = .ok (.aaload, 1) := by decide +kernel
theorem dX4_saveState_63 : decode cX4_saveState 63 = .ok (.aload_n 0, 1) := by decide +kernel
theorem dX4_saveState_64 : decode cX4_saveState 64 = .ok (.getfield 10, 3) := by decide +kernel
theorem dX4_saveState_67 : decode cX4_saveState 67 = .ok (.invokevirtual 257, 3) := by decide +kernel
theorem dX4_saveState_70 : decode cX4_saveState 70 = .ok (.aload_n 0, 1) := by decide +kernel
theorem dX4_saveState_71 : decode cX4_saveState 71 = .ok (.dup, 1) := by decide +kernel
theorem dX4_saveState_72 : decode cX4_saveState 72 = .ok (.getfield 20, 3) := by decide +kernel
theorem dX4_saveState_75 : decode cX4_saveState 75 = .ok (.iconst 1, 1) := by decide +kernel
theorem dX4_saveState_76 : decode cX4_saveState 76 = .ok (.iadd, 1) := by decide +kernel
theorem dX4_saveState_77 : decode cX4_saveState 77 = .ok (.putfield 20, 3) := by decide +kernel
theorem dX4_saveState_80 : decode cX4_saveState 80 = .ok (.return_, 1) := by decide +kernel
theorem dX4_obeyCommand_0 : decode cX4_obeyCommand 0 = .ok (.aload_n 0, 1) := by decide +kernel
theorem dX4_obeyCommand_1 : decode cX4_obeyCommand 1 = .ok (.getfield 27, 3) := by decide +kernel
theorem dX4_obeyCommand_4 : decode cX4_obeyCommand 4 = .ok (.getfield 322, 3) := by decide +kernel
theorem dX4_obeyCommand_7 : decode cX4_obeyCommand 7 = .ok (.tableswitch 179 99 118 #[159, 179, 179, 179, 179, 179, 179, 179, 179, 93, 105, 179, 179, 179, 179, 123, 111, 154, 99, 117], 93) := by decide +kernel
theorem dX4_obeyCommand_100 : decode cX4_obeyCommand 100 = .ok (.aload_n 0, 1) := by decide +kernel
theorem dX4_obeyCommand_101 : decode cX4_obeyCommand 101 = .ok (.iconst 0, 1) := by decide +kernel
theorem dX4_obeyCommand_102 : decode cX4_obeyCommand 102 = .ok (.invokevirtual 325, 3) := by decide +kernel
theorem dX4_obeyCommand_105 : decode cX4_obeyCommand 105 = .ok (.ireturn, 1) := by decide +kernel
theorem dX4_obeyCommand_106 : decode cX4_obeyCommand 106 = .ok (.aload_n 0, 1) := by decide +kernel
theorem dX4_obeyCommand_107 : decode cX4_obeyCommand 107 = .ok (.iconst 1, 1) := by decide +kernel
theorem dX4_obeyCommand_108 : decode cX4_obeyCommand 108 = .ok (.invokevirtual 325, 3) := by decide +kernel
theorem dX4_obeyCommand_111 : decode cX4_obeyCommand 111 = .ok (.ireturn, 1) := by decide +kernel
theorem dX4_obeyCommand_112 : decode cX4_obeyCommand 112 = .ok (.aload_n 0, 1) := by decide +kernel
theorem dX4_obeyCommand_113 : decode cX4_obeyCommand 113 = .ok (.iconst 2, 1) := by decide +kernel
theorem dX4_obeyCommand_114 : decode cX4_obeyCommand 114 = .ok (.invokevirtual 325, 3) := by decide +kernel
theorem dX4_obeyCommand_117 : decode cX4_obeyCommand 117 = .ok (.ireturn, 1) := by decide +kernel
theorem dX4_obeyCommand_118 : decode cX4_obeyCommand 118 = .ok (.aload_n 0, 1) := by decide +kernel
theorem dX4_obeyCommand_119 : decode cX4_obeyCommand 119 = .ok (.iconst 3, 1) := by decide +kernel
theorem dX4_obeyCommand_120 : decode cX4_obeyCommand 120 = .ok (.invokevirtual 325, 3) := by decide +kernel
theorem dX4_obeyCommand_123 : decode cX4_obeyCommand 123 = .ok (.ireturn, 1) := by decide +kernel
theorem dX4_obeyCommand_124 : decode cX4_obeyCommand 124 = .ok (.aload_n 0, 1) := by decide +kernel
theorem dX4_obeyCommand_125 : decode cX4_obeyCommand 125 = .ok (.iconst 4, 1) := by decide +kernel
theorem dX4_obeyCommand_126 : decode cX4_obeyCommand 126 = .ok (.invokevirtual 325, 3) := by decide +kernel
theorem dX4_obeyCommand_129 : decode cX4_obeyCommand 129 = .ok (.ireturn, 1) := by decide +kernel
theorem dX4_obeyCommand_130 : decode cX4_obeyCommand 130 = .ok (.aload_n 0, 1) := by decide +kernel
theorem dX4_obeyCommand_131 : decode cX4_obeyCommand 131 = .ok (.getfield 10, 3) := by decide +kernel
theorem dX4_obeyCommand_134 : decode cX4_obeyCommand 134 = .ok (.aload_n 0, 1) := by decide +kernel
theorem dX4_obeyCommand_135 : decode cX4_obeyCommand 135 = .ok (.getfield 10, 3) := by decide +kernel
theorem dX4_obeyCommand_138 : decode cX4_obeyCommand 138 = .ok (.aload_n 0, 1) := by decide +kernel
theorem dX4_obeyCommand_139 : decode cX4_obeyCommand 139 = .ok (.getfield 27, 3) := by decide +kernel
theorem dX4_obeyCommand_142 : decode cX4_obeyCommand 142 = .ok (.getfield 328, 3) := by decide +kernel
theorem dX4_obeyCommand_145 : decode cX4_obeyCommand 145 = .ok (.invokevirtual 95, 3) := by decide +kernel
theorem dX4_obeyCommand_148 : decode cX4_obeyCommand 148 = .ok (.aload_n 0, 1) := by decide +kernel
theorem dX4_obeyCommand_149 : decode cX4_obeyCommand 149 = .ok (.getfield 27, 3) := by decide +kernel
theorem dX4_obeyCommand_152 : decode cX4_obeyCommand 152 = .ok (.getfield 330, 3) := by decide +kernel
theorem dX4_obeyCommand_155 : decode cX4_obeyCommand 155 = .ok (.invokevirtual 99, 3) := by decide +kernel
theorem dX4_obeyCommand_158 : decode cX4_obeyCommand 158 = .ok (.pop, 1) := by decide +kernel
theorem dX4_obeyCommand_159 : decode cX4_obeyCommand 159 = .ok (.iconst 1, 1) := by decide +kernel
theorem dX4_obeyCommand_160 : decode cX4_obeyCommand 160 = .ok (.ireturn, 1) := by decide +kernel
theorem dX4_obeyCommand_161 : decode cX4_obeyCommand 161 = .ok (.aload_n 0, 1) := by decide +kernel
theorem dX4_obeyCommand_162 : decode cX4_obeyCommand 162 = .ok (.invokevirtual 333, 3) := by decide +kernel
theorem dX4_obeyCommand_165 : decode cX4_obeyCommand 165 = .ok (.ireturn, 1) := by decide +kernel
theorem dX4_obeyCommand_166 : decode cX4_obeyCommand 166 = .ok (.aload_n 0, 1) := by decide +kernel
theorem dX4_obeyCommand_167 : decode cX4_obeyCommand 167 = .ok (.getfield 10, 3) := by decide +kernel
theorem dX4_obeyCommand_170 : decode cX4_obeyCommand 170 = .ok (.aload_n 0, 1) := by decide +kernel
theorem dX4_obeyCommand_171 : decode cX4_obeyCommand 171 = .ok (.getfield 27, 3) := by decide +kernel
theorem dX4_obeyCommand_174 : decode cX4_obeyCommand 174 = .ok (.getfield 328, 3) := by decide +kernel
theorem dX4_obeyCommand_177 : decode cX4_obeyCommand 177 = .ok (.invokevirtual 95, 3) := by decide +kernel
theorem dX4_obeyCommand_180 : decode cX4_obeyCommand 180 = .ok (.invokevirtual 115, 3) := by decide +kernel
theorem dX4_obeyCommand_183 : decode cX4_obeyCommand 183 = .ok (.pop, 1) := by decide +kernel
theorem dX4_obeyCommand_184 : decode cX4_obeyCommand 184 = .ok (.iconst 1, 1) := by decide +kernel
theorem dX4_obeyCommand_185 : decode cX4_obeyCommand 185 = .ok (.ireturn, 1) := by decide +kernel
theorem dX4_obeyCommand_186 : decode cX4_obeyCommand 186 = .ok (.iconst 0, 1) := by decide +kernel
theorem dX4_obeyCommand_187 : decode cX4_obeyCommand 187 = .ok (.ireturn, 1) := by decide +kernel
theorem dX4_obeyWrite_0 : decode cX4_obeyWrite 0 = .ok (.iload_n 1, 1) := by decide +kernel
theorem dX4_obeyWrite_1 : decode cX4_obeyWrite 1 = .ok (.aload_n 0, 1) := by decide +kernel
theorem dX4_obeyWrite_2 : decode cX4_obeyWrite 2 = .ok (.getfield 27, 3) := by decide +kernel
theorem dX4_obeyWrite_5 : decode cX4_obeyWrite 5 = .ok (.getfield 328, 3) := by decide +kernel
theorem dX4_obeyWrite_8 : decode cX4_obeyWrite 8 = .ok (.aload_n 0, 1) := by decide +kernel
theorem dX4_obeyWrite_9 : decode cX4_obeyWrite 9 = .ok (.getfield 27, 3) := by decide +kernel
theorem dX4_obeyWrite_12 : decode cX4_obeyWrite 12 = .ok (.getfield 336, 3) := by decide +kernel
theorem dX4_obeyWrite_15 : decode cX4_obeyWrite 15 = .ok (.aload_n 0, 1) := by decide +kernel
theorem dX4_obeyWrite_16 : decode cX4_obeyWrite 16 = .ok (.getfield 27, 3) := by decide +kernel
theorem dX4_obeyWrite_19 : decode cX4_obeyWrite 19 = .ok (.getfield 330, 3) := by decide +kernel
theorem dX4_obeyWrite_22 : decode cX4_obeyWrite 22 = .ok (.invokestatic 59, 3) := by decide +kernel
theorem dX4_obeyWrite_25 : decode cX4_obeyWrite 25 = .ok (.ifCond .eq 16, 3) := by decide +kernel
theorem dX4_obeyWrite_28 : decode cX4_obeyWrite 28 = .ok (.aload_n 0, 1) := by decide +kernel
theorem dX4_obeyWrite_29 : decode cX4_obeyWrite 29 = .ok (.getfield 10, 3) := by decide +kernel
theorem dX4_obeyWrite_32 : decode cX4_obeyWrite 32 = .ok (.getfield 45, 3) := by decide +kernel
theorem dX4_obeyWrite_35 : decode cX4_obeyWrite 35 = .ok (.invokevirtual 65, 3) := by decide +kernel
theorem dX4_obeyWrite_38 : decode cX4_obeyWrite 38 = .ok (.ifCond .eq 5, 3) := by decide +kernel
theorem dX4_obeyWrite_41 : decode cX4_obeyWrite 41 = .ok (.iconst 0, 1) := by decide +kernel
theorem dX4_obeyWrite_42 : decode cX4_obeyWrite 42 = .ok (.ireturn, 1) := by decide +kernel
theorem dX4_obeyWrite_43 : decode cX4_obeyWrite 43 = .ok (.aload_n 0, 1) := by decide +kernel
theorem dX4_obeyWrite_44 : decode cX4_obeyWrite 44 = .ok (.getfield 10, 3) := by decide +kernel
theorem dX4_obeyWrite_47 : decode cX4_obeyWrite 47 = .ok (.getfield 45, 3) := by decide +kernel
theorem dX4_obeyWrite_50 : decode cX4_obeyWrite 50 = .ok (.iload_n 1, 1) := by decide +kernel
theorem dX4_obeyWrite_51 : decode cX4_obeyWrite 51 = .ok (.aload_n 0, 1) := by decide +kernel
theorem dX4_obeyWrite_52 : decode cX4_obeyWrite 52 = .ok (.getfield 27, 3) := by decide +kernel
theorem dX4_obeyWrite_55 : decode cX4_obeyWrite 55 = .ok (.getfield 328, 3) := by decide +kernel
theorem dX4_obeyWrite_58 : decode cX4_obeyWrite 58 = .ok (.aload_n 0, 1) := by decide +kernel
theorem dX4_obeyWrite_59 : decode cX4_obeyWrite 59 = .ok (.getfield 27, 3) := by decide +kernel
theorem dX4_obeyWrite_62 : decode cX4_obeyWrite 62 = .ok (.getfield 336, 3) := by decide +kernel
theorem dX4_obeyWrite_65 : decode cX4_obeyWrite 65 = .ok (.aload_n 0, 1) := by decide +kernel
theorem dX4_obeyWrite_66 : decode cX4_obeyWrite 66 = .ok (.getfield 27, 3) := by decide +kernel
theorem dX4_obeyWrite_69 : decode cX4_obeyWrite 69 = .ok (.getfield 330, 3) := by decide +kernel
theorem dX4_obeyWrite_72 : decode cX4_obeyWrite 72 = .ok (.invokevirtual 74, 3) := by decide +kernel
theorem dX4_obeyWrite_75 : decode cX4_obeyWrite 75 = .ok (.pop, 1) := by decide +kernel
theorem dX4_obeyWrite_76 : decode cX4_obeyWrite 76 = .ok (.iconst 1, 1) := by decide +kernel
theorem dX4_obeyWrite_77 : decode cX4_obeyWrite 77 = .ok (.ireturn, 1) := by decide +kernel
theorem dX4_obeySnapshot_0 : decode cX4_obeySnapshot 0 = .ok (.aload_n 0, 1) := by decide +kernel
theorem dX4_obeySnapshot_1 : decode cX4_obeySnapshot 1 = .ok (.getfield 10, 3) := by decide +kernel
theorem dX4_obeySnapshot_4 : decode cX4_obeySnapshot 4 = .ok (.aload_n 0, 1) := by decide +kernel
theorem dX4_obeySnapshot_5 : decode cX4_obeySnapshot 5 = .ok (.getfield 27, 3) := by decide +kernel
theorem dX4_obeySnapshot_8 : decode cX4_obeySnapshot 8 = .ok (.getfield 328, 3) := by decide +kernel
theorem dX4_obeySnapshot_11 : decode cX4_obeySnapshot 11 = .ok (.invokevirtual 95, 3) := by decide +kernel
theorem dX4_obeySnapshot_14 : decode cX4_obeySnapshot 14 = .ok (.astore_n 1, 1) := by decide +kernel
theorem dX4_obeySnapshot_15 : decode cX4_obeySnapshot 15 = .ok (.aload_n 1, 1) := by decide +kernel
theorem dX4_obeySnapshot_16 : decode cX4_obeySnapshot 16 = .ok (.getfield 103, 3) := by decide +kernel
theorem dX4_obeySnapshot_19 : decode cX4_obeySnapshot 19 = .ok (.ifCond .ne 5, 3) := by decide +kernel
theorem dX4_obeySnapshot_22 : decode cX4_obeySnapshot 22 = .ok (.iconst 0, 1) := by decide +kernel
theorem dX4_obeySnapshot_23 : decode cX4_obeySnapshot 23 = .ok (.ireturn, 1) := by decide +kernel
theorem dX4_obeySnapshot_24 : decode cX4_obeySnapshot 24 = .ok (.aload_n 0, 1) := by decide +kernel
theorem dX4_obeySnapshot_25 : decode cX4_obeySnapshot 25 = .ok (.getfield 10, 3) := by decide +kernel
theorem dX4_obeySnapshot_28 : decode cX4_obeySnapshot 28 = .ok (.aload_n 1, 1) := by decide +kernel
theorem dX4_obeySnapshot_29 : decode cX4_obeySnapshot 29 = .ok (.invokevirtual 111, 3) := by decide +kernel
theorem dX4_obeySnapshot_32 : decode cX4_obeySnapshot 32 = .ok (.pop, 1) := by decide +kernel
theorem dX4_obeySnapshot_33 : decode cX4_obeySnapshot 33 = .ok (.iconst 1, 1) := by decide +kernel
theorem dX4_obeySnapshot_34 : decode cX4_obeySnapshot 34 = .ok (.ireturn, 1) := by decide +kernel
theorem dJ6_bitCount_0f7a4_0 : decode cJ6_bitCount_0f7a4 0 = .ok (.iload_n 0, 1) := by decide +kernel
theorem dJ6_bitCount_0f7a4_1 : decode cJ6_bitCount_0f7a4 1 = .ok (.iload_n 0, 1) := by decide +kernel
theorem dJ6_bitCount_0f7a4_2 : decode cJ6_bitCount_0f7a4 2 = .ok (.iconst 1, 1) := by decide +kernel
theorem dJ6_bitCount_0f7a4_3 : decode cJ6_bitCount_0f7a4 3 = .ok (.iushr, 1) := by decide +kernel
theorem dJ6_bitCount_0f7a4_4 : decode cJ6_bitCount_0f7a4 4 = .ok (.ldc_w 265, 3) := by decide +kernel
theorem dJ6_bitCount_0f7a4_7 : decode cJ6_bitCount_0f7a4 7 = .ok (.iand, 1) := by decide +kernel
theorem dJ6_bitCount_0f7a4_8 : decode cJ6_bitCount_0f7a4 8 = .ok (.isub, 1) := by decide +kernel
theorem dJ6_bitCount_0f7a4_9 : decode cJ6_bitCount_0f7a4 9 = .ok (.istore_n 0, 1) := by decide +kernel
theorem dJ6_bitCount_0f7a4_10 : decode cJ6_bitCount_0f7a4 10 = .ok (.iload_n 0, 1) := by decide +kernel
theorem dJ6_bitCount_0f7a4_11 : decode cJ6_bitCount_0f7a4 11 = .ok (.ldc_w 266, 3) := by decide +kernel
theorem dJ6_bitCount_0f7a4_14 : decode cJ6_bitCount_0f7a4 14 = .ok (.iand, 1) := by decide +kernel
theorem dJ6_bitCount_0f7a4_15 : decode cJ6_bitCount_0f7a4 15 = .ok (.iload_n 0, 1) := by decide +kernel
theorem dJ6_bitCount_0f7a4_16 : decode cJ6_bitCount_0f7a4 16 = .ok (.iconst 2, 1) := by decide +kernel
theorem dJ6_bitCount_0f7a4_17 : decode cJ6_bitCount_0f7a4 17 = .ok (.iushr, 1) := by decide +kernel
theorem dJ6_bitCount_0f7a4_18 : decode cJ6_bitCount_0f7a4 18 = .ok (.ldc_w 266, 3) := by decide +kernel
theorem dJ6_bitCount_0f7a4_21 : decode cJ6_bitCount_0f7a4 21 = .ok (.iand, 1) := by decide +kernel
theorem dJ6_bitCount_0f7a4_22 : decode cJ6_bitCount_0f7a4 22 = .ok (.iadd, 1) := by decide +kernel
theorem dJ6_bitCount_0f7a4_23 : decode cJ6_bitCount_0f7a4 23 = .ok (.istore_n 0, 1) := by decide +kernel
theorem dJ6_bitCount_0f7a4_24 : decode cJ6_bitCount_0f7a4 24 = .ok (.iload_n 0, 1) := by decide +kernel
theorem dJ6_bitCount_0f7a4_25 : decode cJ6_bitCount_0f7a4 25 = .ok (.iload_n 0, 1) := by decide +kernel
theorem dJ6_bitCount_0f7a4_26 : decode cJ6_bitCount_0f7a4 26 = .ok (.iconst 4, 1) := by decide +kernel
theorem dJ6_bitCount_0f7a4_27 : decode cJ6_bitCount_0f7a4 27 = .ok (.iushr, 1) := by decide +kernel
theorem dJ6_bitCount_0f7a4_28 : decode cJ6_bitCount_0f7a4 28 = .ok (.iadd, 1) := by decide +kernel
theorem dJ6_bitCount_0f7a4_29 : decode cJ6_bitCount_0f7a4 29 = .ok (.ldc_w 267, 3) := by decide +kernel
theorem dJ6_bitCount_0f7a4_32 : decode cJ6_bitCount_0f7a4 32 = .ok (.iand, 1) := by decide +kernel
theorem dJ6_bitCount_0f7a4_33 : decode cJ6_bitCount_0f7a4 33 = .ok (.istore_n 0, 1) := by decide +kernel
theorem dJ6_bitCount_0f7a4_34 : decode cJ6_bitCount_0f7a4 34 = .ok (.iload_n 0, 1) := by decide +kernel
theorem dJ6_bitCount_0f7a4_35 : decode cJ6_bitCount_0f7a4 35 = .ok (.iload_n 0, 1) := by decide +kernel
theorem dJ6_bitCount_0f7a4_36 : decode cJ6_bitCount_0f7a4 36 = .ok (.bipush 8, 2) := by decide +kernel
theorem dJ6_bitCount_0f7a4_38 : decode cJ6_bitCount_0f7a4 38 = .ok (.iushr, 1) := by decide +kernel
theorem dJ6_bitCount_0f7a4_39 : decode cJ6_bitCount_0f7a4 39 = .ok (.iadd, 1) := by decide +kernel
theorem dJ6_bitCount_0f7a4_40 : decode cJ6_bitCount_0f7a4 40 = .ok (.istore_n 0, 1) := by decide +kernel
theorem dJ6_bitCount_0f7a4_41 : decode cJ6_bitCount_0f7a4 41 = .ok (.iload_n 0, 1) := by decide +kernel
theorem dJ6_bitCount_0f7a4_42 : decode cJ6_bitCount_0f7a4 42 = .ok (.iload_n 0, 1) := by decide +kernel
theorem dJ6_bitCount_0f7a4_43 : decode cJ6_bitCount_0f7a4 43 = .ok (.bipush 16, 2) := by decide +kernel
theorem dJ6_bitCount_0f7a4_45 : decode cJ6_bitCount_0f7a4 45 = .ok (.iushr, 1) := by decide +kernel
theorem dJ6_bitCount_0f7a4_46 : decode cJ6_bitCount_0f7a4 46 = .ok (.iadd, 1) := by decide +kernel
theorem dJ6_bitCount_0f7a4_47 : decode cJ6_bitCount_0f7a4 47 = .ok (.istore_n 0, 1) := by decide +kernel
theorem dJ6_bitCount_0f7a4_48 : decode cJ6_bitCount_0f7a4 48 = .ok (.iload_n 0, 1) := by decide +kernel
theorem dJ6_bitCount_0f7a4_49 : decode cJ6_bitCount_0f7a4 49 = .ok (.bipush 63, 2) := by decide +kernel
theorem dJ6_bitCount_0f7a4_51 : decode cJ6_bitCount_0f7a4 51 = .ok (.iand, 1) := by decide +kernel
theorem dJ6_bitCount_0f7a4_52 : decode cJ6_bitCount_0f7a4 52 = .ok (.ireturn, 1) := by decide +kernel
theorem dJ9_max_7cf53_0 : decode cJ9_max_7cf53 0 = .ok (.iload_n 0, 1) := by decide +kernel
theorem dJ9_max_7cf53_1 : decode cJ9_max_7cf53 1 = .ok (.iload_n 1, 1) := by decide +kernel
theorem dJ9_max_7cf53_2 : decode cJ9_max_7cf53 2 = .ok (.if_icmp .lt 7, 3) := by decide +kernel
theorem dJ9_max_7cf53_5 : decode cJ9_max_7cf53 5 = .ok (.iload_n 0, 1) := by decide +kernel
theorem dJ9_max_7cf53_6 : decode cJ9_max_7cf53 6 = .ok (.goto 4, 3) := by decide +kernel
theorem dJ9_max_7cf53_9 : decode cJ9_max_7cf53 9 = .ok (.iload_n 1, 1) := by decide +kernel
theorem dJ9_max_7cf53_10 : decode cJ9_max_7cf53 10 = .ok (.ireturn, 1) := by decide +kernel
theorem dJ9_min_7cf53_0 : decode cJ9_min_7cf53 0 = .ok (.iload_n 0, 1) := by decide +kernel
theorem dJ9_min_7cf53_1 : decode cJ9_min_7cf53 1 = .ok (.iload_n 1, 1) := by decide +kernel
theorem dJ9_min_7cf53_2 : decode cJ9_min_7cf53 2 = .ok (.if_icmp .gt 7, 3) := by decide +kernel
theorem dJ9_min_7cf53_5 : decode cJ9_min_7cf53 5 = .ok (.iload_n 0, 1) := by decide +kernel
theorem dJ9_min_7cf53_6 : decode cJ9_min_7cf53 6 = .ok (.goto 4, 3) := by decide +kernel
theorem dJ9_min_7cf53_9 : decode cJ9_min_7cf53 9 = .ok (.iload_n 1, 1) := by decide +kernel
theorem dJ9_min_7cf53_10 : decode cJ9_min_7cf53 10 = .ok (.ireturn, 1) := by decide +kernel
theorem dL_cell_0 : decode cL_cell 0 = .ok (.iload_n 1, 1) := by decide +kernel
theorem dL_cell_1 : decode cL_cell 1 = .ok (.aload_n 0, 1) := by decide +kernel
theorem dL_cell_2 : decode cL_cell 2 = .ok (.arraylength, 1) := by decide +kernel
theorem dL_cell_3 : decode cL_cell 3 = .ok (.if_icmp .ge 9, 3) := by decide +kernel
theorem dL_cell_6 : decode cL_cell 6 = .ok (.aload_n 0, 1) := by decide +kernel
theorem dL_cell_7 : decode cL_cell 7 = .ok (.iload_n 1, 1) := by decide +kernel
theorem dL_cell_8 : decode cL_cell 8 = .ok (.iaload, 1) := by decide +kernel
theorem dL_cell_9 : decode cL_cell 9 = .ok (.goto 11, 3) := by decide +kernel
theorem dL_cell_12 : decode cL_cell 12 = .ok (.ldc 7, 2) := by decide +kernel
theorem dL_cell_14 : decode cL_cell 14 = .ok (.iload_n 1, 1) := by decide +kernel
theorem dL_cell_15 : decode cL_cell 15 = .ok (.imul, 1) := by decide +kernel
theorem dL_cell_16 : decode cL_cell 16 = .ok (.sipush 197, 3) := by decide +kernel
theorem dL_cell_19 : decode cL_cell 19 = .ok (.iadd, 1) := by decide +kernel
theorem dL_cell_20 : decode cL_cell 20 = .ok (.ldc 8, 2) := by decide +kernel
theorem dL_cell_22 : decode cL_cell 22 = .ok (.iand, 1) := by decide +kernel
theorem dL_cell_23 : decode cL_cell 23 = .ok (.ireturn, 1) := by decide +kernel
theorem dL_begin_0 : decode cL_begin 0 = .ok (.aload_n 0, 1) := by decide +kernel
theorem dL_begin_1 : decode cL_begin 1 = .ok (.iload_n 1, 1) := by decide +kernel
theorem dL_begin_2 : decode cL_begin 2 = .ok (.invokevirtual 9, 3) := by decide +kernel
theorem dL_begin_5 : decode cL_begin 5 = .ok (.ireturn, 1) := by decide +kernel
theorem dL_begin_6 : decode cL_begin 6 = .ok (.astore_n 2, 1) := by decide +kernel
theorem dL_begin_7 : decode cL_begin 7 = .ok (.bipush (-11), 2) := by decide +kernel
theorem dL_begin_9 : decode cL_begin 9 = .ok (.ireturn, 1) := by decide +kernel
theorem dL_write_0 : decode cL_write 0 = .ok (.aload_n 0, 1) := by decide +kernel
theorem dL_write_1 : decode cL_write 1 = .ok (.iload_n 1, 1) := by decide +kernel
theorem dL_write_2 : decode cL_write 2 = .ok (.iload_n 2, 1) := by decide +kernel
theorem dL_write_3 : decode cL_write 3 = .ok (.iload_n 3, 1) := by decide +kernel
theorem dL_write_4 : decode cL_write 4 = .ok (.iload 4, 2) := by decide +kernel
theorem dL_write_6 : decode cL_write 6 = .ok (.invokevirtual 17, 3) := by decide +kernel
theorem dL_write_9 : decode cL_write 9 = .ok (.ireturn, 1) := by decide +kernel
theorem dL_write_10 : decode cL_write 10 = .ok (.astore 5, 2) := by decide +kernel
theorem dL_write_12 : decode cL_write 12 = .ok (.bipush (-11), 2) := by decide +kernel
theorem dL_write_14 : decode cL_write 14 = .ok (.ireturn, 1) := by decide +kernel
theorem dL_write_15 : decode cL_write 15 = .ok (.astore 5, 2) := by decide +kernel
theorem dL_write_17 : decode cL_write 17 = .ok (.bipush (-12), 2) := by decide +kernel
theorem dL_write_19 : decode cL_write 19 = .ok (.ireturn, 1) := by decide +kernel
theorem dL_spoil_0 : decode cL_spoil 0 = .ok (.aload_n 0, 1) := by decide +kernel
theorem dL_spoil_1 : decode cL_spoil 1 = .ok (.iload_n 1, 1) := by decide +kernel
theorem dL_spoil_2 : decode cL_spoil 2 = .ok (.iload_n 2, 1) := by decide +kernel
theorem dL_spoil_3 : decode cL_spoil 3 = .ok (.invokevirtual 23, 3) := by decide +kernel
theorem dL_spoil_6 : decode cL_spoil 6 = .ok (.ireturn, 1) := by decide +kernel
theorem dL_spoil_7 : decode cL_spoil 7 = .ok (.astore_n 3, 1) := by decide +kernel
theorem dL_spoil_8 : decode cL_spoil 8 = .ok (.bipush (-11), 2) := by decide +kernel
theorem dL_spoil_10 : decode cL_spoil 10 = .ok (.ireturn, 1) := by decide +kernel
theorem dL_spoil_11 : decode cL_spoil 11 = .ok (.astore_n 3, 1) := by decide +kernel
theorem dL_spoil_12 : decode cL_spoil 12 = .ok (.bipush (-12), 2) := by decide +kernel
theorem dL_spoil_14 : decode cL_spoil 14 = .ok (.ireturn, 1) := by decide +kernel
theorem dL_replay_0 : decode cL_replay 0 = .ok (.aload_n 0, 1) := by decide +kernel
theorem dL_replay_1 : decode cL_replay 1 = .ok (.iload_n 1, 1) := by decide +kernel
theorem dL_replay_2 : decode cL_replay 2 = .ok (.iload_n 2, 1) := by decide +kernel
theorem dL_replay_3 : decode cL_replay 3 = .ok (.invokevirtual 29, 3) := by decide +kernel
theorem dL_replay_6 : decode cL_replay 6 = .ok (.ireturn, 1) := by decide +kernel
theorem dL_replay_7 : decode cL_replay 7 = .ok (.astore_n 3, 1) := by decide +kernel
theorem dL_replay_8 : decode cL_replay 8 = .ok (.bipush (-11), 2) := by decide +kernel
theorem dL_replay_10 : decode cL_replay 10 = .ok (.ireturn, 1) := by decide +kernel
theorem dL_replay_11 : decode cL_replay 11 = .ok (.astore_n 3, 1) := by decide +kernel
theorem dL_replay_12 : decode cL_replay 12 = .ok (.bipush (-12), 2) := by decide +kernel
theorem dL_replay_14 : decode cL_replay 14 = .ok (.ireturn, 1) := by decide +kernel
theorem dL_snapshot_0 : decode cL_snapshot 0 = .ok (.aload_n 0, 1) := by decide +kernel
theorem dL_snapshot_1 : decode cL_snapshot 1 = .ok (.iload_n 1, 1) := by decide +kernel
theorem dL_snapshot_2 : decode cL_snapshot 2 = .ok (.invokevirtual 32, 3) := by decide +kernel
theorem dL_snapshot_5 : decode cL_snapshot 5 = .ok (.ireturn, 1) := by decide +kernel
theorem dL_snapshot_6 : decode cL_snapshot 6 = .ok (.astore_n 2, 1) := by decide +kernel
theorem dL_snapshot_7 : decode cL_snapshot 7 = .ok (.bipush (-11), 2) := by decide +kernel
theorem dL_snapshot_9 : decode cL_snapshot 9 = .ok (.ireturn, 1) := by decide +kernel
theorem dL_snapshot_10 : decode cL_snapshot 10 = .ok (.astore_n 2, 1) := by decide +kernel
theorem dL_snapshot_11 : decode cL_snapshot 11 = .ok (.bipush (-12), 2) := by decide +kernel
theorem dL_snapshot_13 : decode cL_snapshot 13 = .ok (.ireturn, 1) := by decide +kernel
theorem dL_crash_0 : decode cL_crash 0 = .ok (.aload_n 0, 1) := by decide +kernel
theorem dL_crash_1 : decode cL_crash 1 = .ok (.iload_n 1, 1) := by decide +kernel
theorem dL_crash_2 : decode cL_crash 2 = .ok (.invokevirtual 35, 3) := by decide +kernel
theorem dL_crash_5 : decode cL_crash 5 = .ok (.ireturn, 1) := by decide +kernel
theorem dL_crash_6 : decode cL_crash 6 = .ok (.astore_n 2, 1) := by decide +kernel
theorem dL_crash_7 : decode cL_crash 7 = .ok (.bipush (-11), 2) := by decide +kernel
theorem dL_crash_9 : decode cL_crash 9 = .ok (.ireturn, 1) := by decide +kernel
theorem dL_link_0 : decode cL_link 0 = .ok (.aload_n 0, 1) := by decide +kernel
theorem dL_link_1 : decode cL_link 1 = .ok (.iload_n 1, 1) := by decide +kernel
theorem dL_link_2 : decode cL_link 2 = .ok (.iload_n 2, 1) := by decide +kernel
theorem dL_link_3 : decode cL_link 3 = .ok (.invokevirtual 38, 3) := by decide +kernel
theorem dL_link_6 : decode cL_link 6 = .ok (.ireturn, 1) := by decide +kernel
theorem dL_link_7 : decode cL_link 7 = .ok (.astore_n 3, 1) := by decide +kernel
theorem dL_link_8 : decode cL_link 8 = .ok (.bipush (-11), 2) := by decide +kernel
theorem dL_link_10 : decode cL_link 10 = .ok (.ireturn, 1) := by decide +kernel
theorem dL_link_11 : decode cL_link 11 = .ok (.astore_n 3, 1) := by decide +kernel
theorem dL_link_12 : decode cL_link 12 = .ok (.bipush (-12), 2) := by decide +kernel
theorem dL_link_14 : decode cL_link 14 = .ok (.ireturn, 1) := by decide +kernel
theorem dL_order_0 : decode cL_order 0 = .ok (.aload_n 0, 1) := by decide +kernel
theorem dL_order_1 : decode cL_order 1 = .ok (.iload_n 1, 1) := by decide +kernel
theorem dL_order_2 : decode cL_order 2 = .ok (.iload_n 2, 1) := by decide +kernel
theorem dL_order_3 : decode cL_order 3 = .ok (.invokevirtual 42, 3) := by decide +kernel
theorem dL_order_6 : decode cL_order 6 = .ok (.ireturn, 1) := by decide +kernel
theorem dL_order_7 : decode cL_order 7 = .ok (.astore_n 3, 1) := by decide +kernel
theorem dL_order_8 : decode cL_order 8 = .ok (.bipush (-11), 2) := by decide +kernel
theorem dL_order_10 : decode cL_order 10 = .ok (.ireturn, 1) := by decide +kernel
theorem dL_order_11 : decode cL_order 11 = .ok (.astore_n 3, 1) := by decide +kernel
theorem dL_order_12 : decode cL_order 12 = .ok (.bipush (-12), 2) := by decide +kernel
theorem dL_order_14 : decode cL_order 14 = .ok (.ireturn, 1) := by decide +kernel
theorem dL_ship_0 : decode cL_ship 0 = .ok (.aload_n 0, 1) := by decide +kernel
theorem dL_ship_1 : decode cL_ship 1 = .ok (.iload_n 1, 1) := by decide +kernel
theorem dL_ship_2 : decode cL_ship 2 = .ok (.iload_n 2, 1) := by decide +kernel
theorem dL_ship_3 : decode cL_ship 3 = .ok (.invokevirtual 45, 3) := by decide +kernel
theorem dL_ship_6 : decode cL_ship 6 = .ok (.ireturn, 1) := by decide +kernel
theorem dL_ship_7 : decode cL_ship 7 = .ok (.astore_n 3, 1) := by decide +kernel
theorem dL_ship_8 : decode cL_ship 8 = .ok (.bipush (-11), 2) := by decide +kernel
theorem dL_ship_10 : decode cL_ship 10 = .ok (.ireturn, 1) := by decide +kernel
theorem dL_ship_11 : decode cL_ship 11 = .ok (.astore_n 3, 1) := by decide +kernel
theorem dL_ship_12 : decode cL_ship 12 = .ok (.bipush (-12), 2) := by decide +kernel
theorem dL_ship_14 : decode cL_ship 14 = .ok (.ireturn, 1) := by decide +kernel
theorem dL_hold_0 : decode cL_hold 0 = .ok (.aload_n 0, 1) := by decide +kernel
theorem dL_hold_1 : decode cL_hold 1 = .ok (.iload_n 1, 1) := by decide +kernel
theorem dL_hold_2 : decode cL_hold 2 = .ok (.iload_n 2, 1) := by decide +kernel
theorem dL_hold_3 : decode cL_hold 3 = .ok (.invokevirtual 48, 3) := by decide +kernel
theorem dL_hold_6 : decode cL_hold 6 = .ok (.ireturn, 1) := by decide +kernel
theorem dL_hold_7 : decode cL_hold 7 = .ok (.astore_n 3, 1) := by decide +kernel
theorem dL_hold_8 : decode cL_hold 8 = .ok (.bipush (-11), 2) := by decide +kernel
theorem dL_hold_10 : decode cL_hold 10 = .ok (.ireturn, 1) := by decide +kernel
theorem dL_value_0 : decode cL_value 0 = .ok (.aload_n 0, 1) := by decide +kernel
theorem dL_value_1 : decode cL_value 1 = .ok (.iload_n 1, 1) := by decide +kernel
theorem dL_value_2 : decode cL_value 2 = .ok (.invokevirtual 51, 3) := by decide +kernel
theorem dL_value_5 : decode cL_value 5 = .ok (.ireturn, 1) := by decide +kernel
theorem dL_value_6 : decode cL_value 6 = .ok (.astore_n 2, 1) := by decide +kernel
theorem dL_value_7 : decode cL_value 7 = .ok (.bipush (-11), 2) := by decide +kernel
theorem dL_value_9 : decode cL_value 9 = .ok (.ireturn, 1) := by decide +kernel
theorem dL_ahead_0 : decode cL_ahead 0 = .ok (.aload_n 0, 1) := by decide +kernel
theorem dL_ahead_1 : decode cL_ahead 1 = .ok (.iload_n 1, 1) := by decide +kernel
theorem dL_ahead_2 : decode cL_ahead 2 = .ok (.invokevirtual 54, 3) := by decide +kernel
theorem dL_ahead_5 : decode cL_ahead 5 = .ok (.ireturn, 1) := by decide +kernel
theorem dL_ahead_6 : decode cL_ahead 6 = .ok (.astore_n 2, 1) := by decide +kernel
theorem dL_ahead_7 : decode cL_ahead 7 = .ok (.bipush (-11), 2) := by decide +kernel
theorem dL_ahead_9 : decode cL_ahead 9 = .ok (.ireturn, 1) := by decide +kernel
theorem dL_stop_0 : decode cL_stop 0 = .ok (.aload_n 0, 1) := by decide +kernel
theorem dL_stop_1 : decode cL_stop 1 = .ok (.iload_n 1, 1) := by decide +kernel
theorem dL_stop_2 : decode cL_stop 2 = .ok (.invokevirtual 57, 3) := by decide +kernel
theorem dL_stop_5 : decode cL_stop 5 = .ok (.ireturn, 1) := by decide +kernel
theorem dL_stop_6 : decode cL_stop 6 = .ok (.astore_n 2, 1) := by decide +kernel
theorem dL_stop_7 : decode cL_stop 7 = .ok (.bipush (-11), 2) := by decide +kernel
theorem dL_stop_9 : decode cL_stop 9 = .ok (.ireturn, 1) := by decide +kernel
theorem dL_tonsAt_0 : decode cL_tonsAt 0 = .ok (.aload_n 0, 1) := by decide +kernel
theorem dL_tonsAt_1 : decode cL_tonsAt 1 = .ok (.iload_n 1, 1) := by decide +kernel
theorem dL_tonsAt_2 : decode cL_tonsAt 2 = .ok (.iload_n 2, 1) := by decide +kernel
theorem dL_tonsAt_3 : decode cL_tonsAt 3 = .ok (.invokevirtual 60, 3) := by decide +kernel
theorem dL_tonsAt_6 : decode cL_tonsAt 6 = .ok (.ireturn, 1) := by decide +kernel
theorem dL_tonsAt_7 : decode cL_tonsAt 7 = .ok (.astore_n 3, 1) := by decide +kernel
theorem dL_tonsAt_8 : decode cL_tonsAt 8 = .ok (.bipush (-11), 2) := by decide +kernel
theorem dL_tonsAt_10 : decode cL_tonsAt 10 = .ok (.ireturn, 1) := by decide +kernel
theorem dL_roomBy_0 : decode cL_roomBy 0 = .ok (.aload_n 0, 1) := by decide +kernel
theorem dL_roomBy_1 : decode cL_roomBy 1 = .ok (.iload_n 1, 1) := by decide +kernel
theorem dL_roomBy_2 : decode cL_roomBy 2 = .ok (.invokevirtual 63, 3) := by decide +kernel
theorem dL_roomBy_5 : decode cL_roomBy 5 = .ok (.ireturn, 1) := by decide +kernel
theorem dL_roomBy_6 : decode cL_roomBy 6 = .ok (.astore_n 2, 1) := by decide +kernel
theorem dL_roomBy_7 : decode cL_roomBy 7 = .ok (.bipush (-11), 2) := by decide +kernel
theorem dL_roomBy_9 : decode cL_roomBy 9 = .ok (.ireturn, 1) := by decide +kernel
theorem dL_append_0 : decode cL_append 0 = .ok (.aload_n 0, 1) := by decide +kernel
theorem dL_append_1 : decode cL_append 1 = .ok (.iload_n 1, 1) := by decide +kernel
theorem dL_append_2 : decode cL_append 2 = .ok (.invokevirtual 66, 3) := by decide +kernel
theorem dL_append_5 : decode cL_append 5 = .ok (.ireturn, 1) := by decide +kernel
theorem dL_append_6 : decode cL_append 6 = .ok (.astore_n 2, 1) := by decide +kernel
theorem dL_append_7 : decode cL_append 7 = .ok (.bipush (-11), 2) := by decide +kernel
theorem dL_append_9 : decode cL_append 9 = .ok (.ireturn, 1) := by decide +kernel
theorem dL_append_10 : decode cL_append 10 = .ok (.astore_n 2, 1) := by decide +kernel
theorem dL_append_11 : decode cL_append 11 = .ok (.bipush (-12), 2) := by decide +kernel
theorem dL_append_13 : decode cL_append 13 = .ok (.ireturn, 1) := by decide +kernel
theorem dL_undo_0 : decode cL_undo 0 = .ok (.aload_n 0, 1) := by decide +kernel
theorem dL_undo_1 : decode cL_undo 1 = .ok (.invokevirtual 69, 3) := by decide +kernel
theorem dL_undo_4 : decode cL_undo 4 = .ok (.ireturn, 1) := by decide +kernel
theorem dL_undo_5 : decode cL_undo 5 = .ok (.astore_n 1, 1) := by decide +kernel
theorem dL_undo_6 : decode cL_undo 6 = .ok (.bipush (-11), 2) := by decide +kernel
theorem dL_undo_8 : decode cL_undo 8 = .ok (.ireturn, 1) := by decide +kernel
theorem dL_lesser_0 : decode cL_lesser 0 = .ok (.iload_n 0, 1) := by decide +kernel
theorem dL_lesser_1 : decode cL_lesser 1 = .ok (.iload_n 1, 1) := by decide +kernel
theorem dL_lesser_2 : decode cL_lesser 2 = .ok (.if_icmp .ge 7, 3) := by decide +kernel
theorem dL_lesser_5 : decode cL_lesser 5 = .ok (.iload_n 0, 1) := by decide +kernel
theorem dL_lesser_6 : decode cL_lesser 6 = .ok (.goto 4, 3) := by decide +kernel
theorem dL_lesser_9 : decode cL_lesser 9 = .ok (.iload_n 1, 1) := by decide +kernel
theorem dL_lesser_10 : decode cL_lesser 10 = .ok (.ireturn, 1) := by decide +kernel
