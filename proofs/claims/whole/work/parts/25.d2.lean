/-! what stands at each place of the code, printed -/
theorem dX4_undo_0 : decode cX4_undo 0 = .ok (.aload_n 0, 1) := by decide +kernel
theorem dX4_undo_1 : decode cX4_undo 1 = .ok (.getfield 20, 3) := by decide +kernel
theorem dX4_undo_4 : decode cX4_undo 4 = .ok (.iconst 1, 1) := by decide +kernel
theorem dX4_undo_5 : decode cX4_undo 5 = .ok (.if_icmp .ge 13, 3) := by decide +kernel
theorem dX4_undo_8 : decode cX4_undo 8 = .ok (.new 69, 3) := by decide +kernel
theorem dX4_undo_11 : decode cX4_undo 11 = .ok (.dup, 1) := by decide +kernel
theorem dX4_undo_12 : decode cX4_undo 12 = .ok (.ldc 255, 2) := by decide +kernel
theorem dX4_undo_14 : decode cX4_undo 14 = .ok (.invokespecial 73, 3) := by decide +kernel
theorem dX4_undo_17 : decode cX4_undo 17 = .ok (.athrow, 1) := by decide +kernel
theorem dX4_undo_18 : decode cX4_undo 18 = .ok (.aload_n 0, 1) := by decide +kernel
theorem dX4_undo_19 : decode cX4_undo 19 = .ok (.dup, 1) := by decide +kernel
theorem dX4_undo_20 : decode cX4_undo 20 = .ok (.getfield 20, 3) := by decide +kernel
theorem dX4_undo_23 : decode cX4_undo 23 = .ok (.iconst 1, 1) := by decide +kernel
theorem dX4_undo_24 : decode cX4_undo 24 = .ok (.isub, 1) := by decide +kernel
theorem dX4_undo_25 : decode cX4_undo 25 = .ok (.putfield 20, 3) := by decide +kernel
theorem dX4_undo_28 : decode cX4_undo 28 = .ok (.aload_n 0, 1) := by decide +kernel
theorem dX4_undo_29 : decode cX4_undo 29 = .ok (.getfield 10, 3) := by decide +kernel
theorem dX4_undo_32 : decode cX4_undo 32 = .ok (.aload_n 0, 1) := by decide +kernel
theorem dX4_undo_33 : decode cX4_undo 33 = .ok (.getfield 16, 3) := by decide +kernel
theorem dX4_undo_36 : decode cX4_undo 36 = .ok (.aload_n 0, 1) := by decide +kernel
theorem dX4_undo_37 : decode cX4_undo 37 = .ok (.getfield 20, 3) := by decide +kernel
theorem dX4_undo_40 : decode cX4_undo 40 = .ok (.aaload, 1) := by decide +kernel
theorem dX4_undo_41 : decode cX4_undo 41 = .ok (.invokevirtual 257, 3) := by decide +kernel
theorem dX4_undo_44 : decode cX4_undo 44 = .ok (.aload_n 0, 1) := by decide +kernel
theorem dX4_undo_45 : decode cX4_undo 45 = .ok (.getfield 20, 3) := by decide +kernel
theorem dX4_undo_48 : decode cX4_undo 48 = .ok (.ireturn, 1) := by decide +kernel
theorem dX4_digest_0 : decode cX4_digest 0 = .ok (.ldc2_w 261, 3) := by decide +kernel
theorem dX4_digest_3 : decode cX4_digest 3 = .ok (.aload_n 0, 1) := by decide +kernel
theorem dX4_digest_4 : decode cX4_digest 4 = .ok (.getfield 27, 3) := by decide +kernel
theorem dX4_digest_7 : decode cX4_digest 7 = .ok (.getfield 263, 3) := by decide +kernel
theorem dX4_digest_10 : decode cX4_digest 10 = .ok (.i2l, 1) := by decide +kernel
theorem dX4_digest_11 : decode cX4_digest 11 = .ok (.invokestatic 266, 3) := by decide +kernel
theorem dX4_digest_14 : decode cX4_digest 14 = .ok (.lstore_n 1, 1) := by decide +kernel
theorem dX4_digest_15 : decode cX4_digest 15 = .ok (.iconst 0, 1) := by decide +kernel
theorem dX4_digest_16 : decode cX4_digest 16 = .ok (.istore_n 3, 1) := by decide +kernel
theorem dX4_digest_17 : decode cX4_digest 17 = .ok (.iload_n 3, 1) := by decide +kernel
theorem dX4_digest_18 : decode cX4_digest 18 = .ok (.bipush 7, 2) := by decide +kernel
theorem dX4_digest_20 : decode cX4_digest 20 = .ok (.if_icmp .ge 20, 3) := by decide +kernel
theorem dX4_digest_23 : decode cX4_digest 23 = .ok (.lload_n 1, 1) := by decide +kernel
theorem dX4_digest_24 : decode cX4_digest 24 = .ok (.aload_n 0, 1) := by decide +kernel
theorem dX4_digest_25 : decode cX4_digest 25 = .ok (.iload_n 3, 1) := by decide +kernel
theorem dX4_digest_26 : decode cX4_digest 26 = .ok (.invokevirtual 270, 3) := by decide +kernel
theorem dX4_digest_29 : decode cX4_digest 29 = .ok (.i2l, 1) := by decide +kernel
theorem dX4_digest_30 : decode cX4_digest 30 = .ok (.invokestatic 266, 3) := by decide +kernel
theorem dX4_digest_33 : decode cX4_digest 33 = .ok (.lstore_n 1, 1) := by decide +kernel
theorem dX4_digest_34 : decode cX4_digest 34 = .ok (.iinc 3 1, 3) := by decide +kernel
theorem dX4_digest_37 : decode cX4_digest 37 = .ok (.goto (-20), 3) := by decide +kernel
theorem dX4_digest_40 : decode cX4_digest 40 = .ok (.aload_n 0, 1) := by decide +kernel
theorem dX4_digest_41 : decode cX4_digest 41 = .ok (.lload_n 1, 1) := by decide +kernel
theorem dX4_digest_42 : decode cX4_digest 42 = .ok (.invokevirtual 273, 3) := by decide +kernel
theorem dX4_digest_45 : decode cX4_digest 45 = .ok (.lstore_n 1, 1) := by decide +kernel
theorem dX4_digest_46 : decode cX4_digest 46 = .ok (.aload_n 0, 1) := by decide +kernel
theorem dX4_digest_47 : decode cX4_digest 47 = .ok (.lload_n 1, 1) := by decide +kernel
theorem dX4_digest_48 : decode cX4_digest 48 = .ok (.invokevirtual 277, 3) := by decide +kernel
theorem dX4_digest_51 : decode cX4_digest 51 = .ok (.lstore_n 1, 1) := by decide +kernel
theorem dX4_digest_52 : decode cX4_digest 52 = .ok (.aload_n 0, 1) := by decide +kernel
theorem dX4_digest_53 : decode cX4_digest 53 = .ok (.lload_n 1, 1) := by decide +kernel
theorem dX4_digest_54 : decode cX4_digest 54 = .ok (.invokevirtual 280, 3) := by decide +kernel
theorem dX4_digest_57 : decode cX4_digest 57 = .ok (.lstore_n 1, 1) := by decide +kernel
theorem dX4_digest_58 : decode cX4_digest 58 = .ok (.lload_n 1, 1) := by decide +kernel
theorem dX4_digest_59 : decode cX4_digest 59 = .ok (.aload_n 0, 1) := by decide +kernel
theorem dX4_digest_60 : decode cX4_digest 60 = .ok (.getfield 20, 3) := by decide +kernel
theorem dX4_digest_63 : decode cX4_digest 63 = .ok (.i2l, 1) := by decide +kernel
theorem dX4_digest_64 : decode cX4_digest 64 = .ok (.invokestatic 266, 3) := by decide +kernel
theorem dX4_digest_67 : decode cX4_digest 67 = .ok (.lreturn, 1) := by decide +kernel
theorem dX4_mix_0 : decode cX4_mix 0 = .ok (.ldc2_w 283, 3) := by decide +kernel
theorem dX4_mix_3 : decode cX4_mix 3 = .ok (.lload_n 0, 1) := by decide +kernel
theorem dX4_mix_4 : decode cX4_mix 4 = .ok (.lmul, 1) := by decide +kernel
theorem dX4_mix_5 : decode cX4_mix 5 = .ok (.lload_n 2, 1) := by decide +kernel
theorem dX4_mix_6 : decode cX4_mix 6 = .ok (.ladd, 1) := by decide +kernel
theorem dX4_mix_7 : decode cX4_mix 7 = .ok (.lreturn, 1) := by decide +kernel
theorem dX4_mixOrders_0 : decode cX4_mixOrders 0 = .ok (.lload_n 1, 1) := by decide +kernel
theorem dX4_mixOrders_1 : decode cX4_mixOrders 1 = .ok (.lstore_n 3, 1) := by decide +kernel
theorem dX4_mixOrders_2 : decode cX4_mixOrders 2 = .ok (.aload_n 0, 1) := by decide +kernel
theorem dX4_mixOrders_3 : decode cX4_mixOrders 3 = .ok (.getfield 10, 3) := by decide +kernel
theorem dX4_mixOrders_6 : decode cX4_mixOrders 6 = .ok (.getfield 45, 3) := by decide +kernel
theorem dX4_mixOrders_9 : decode cX4_mixOrders 9 = .ok (.getfield 170, 3) := by decide +kernel
theorem dX4_mixOrders_12 : decode cX4_mixOrders 12 = .ok (.istore 5, 2) := by decide +kernel
theorem dX4_mixOrders_14 : decode cX4_mixOrders 14 = .ok (.iload 5, 2) := by decide +kernel
theorem dX4_mixOrders_16 : decode cX4_mixOrders 16 = .ok (.aload_n 0, 1) := by decide +kernel
theorem dX4_mixOrders_17 : decode cX4_mixOrders 17 = .ok (.getfield 10, 3) := by decide +kernel
theorem dX4_mixOrders_20 : decode cX4_mixOrders 20 = .ok (.getfield 45, 3) := by decide +kernel
theorem dX4_mixOrders_23 : decode cX4_mixOrders 23 = .ok (.getfield 173, 3) := by decide +kernel
theorem dX4_mixOrders_26 : decode cX4_mixOrders 26 = .ok (.if_icmp .ge 39, 3) := by decide +kernel
theorem dX4_mixOrders_29 : decode cX4_mixOrders 29 = .ok (.iconst 0, 1) := by decide +kernel
theorem dX4_mixOrders_30 : decode cX4_mixOrders 30 = .ok (.istore 6, 2) := by decide +kernel
theorem dX4_mixOrders_32 : decode cX4_mixOrders 32 = .ok (.iload 6, 2) := by decide +kernel
theorem dX4_mixOrders_34 : decode cX4_mixOrders 34 = .ok (.bipush 6, 2) := by decide +kernel
theorem dX4_mixOrders_36 : decode cX4_mixOrders 36 = .ok (.if_icmp .ge 23, 3) := by decide +kernel
theorem dX4_mixOrders_39 : decode cX4_mixOrders 39 = .ok (.lload_n 3, 1) := by decide +kernel
theorem dX4_mixOrders_40 : decode cX4_mixOrders 40 = .ok (.aload_n 0, 1) := by decide +kernel
theorem dX4_mixOrders_41 : decode cX4_mixOrders 41 = .ok (.iload 5, 2) := by decide +kernel
theorem dX4_mixOrders_43 : decode cX4_mixOrders 43 = .ok (.iload 6, 2) := by decide +kernel
theorem dX4_mixOrders_45 : decode cX4_mixOrders 45 = .ok (.invokevirtual 285, 3) := by decide +kernel
theorem dX4_mixOrders_48 : decode cX4_mixOrders 48 = .ok (.i2l, 1) := by decide +kernel
theorem dX4_mixOrders_49 : decode cX4_mixOrders 49 = .ok (.invokestatic 266, 3) := by decide +kernel
theorem dX4_mixOrders_52 : decode cX4_mixOrders 52 = .ok (.lstore_n 3, 1) := by decide +kernel
theorem dX4_mixOrders_53 : decode cX4_mixOrders 53 = .ok (.iinc 6 1, 3) := by decide +kernel
theorem dX4_mixOrders_56 : decode cX4_mixOrders 56 = .ok (.goto (-24), 3) := by decide +kernel
theorem dX4_mixOrders_59 : decode cX4_mixOrders 59 = .ok (.iinc 5 1, 3) := by decide +kernel
theorem dX4_mixOrders_62 : decode cX4_mixOrders 62 = .ok (.goto (-48), 3) := by decide +kernel
theorem dX4_mixOrders_65 : decode cX4_mixOrders 65 = .ok (.lload_n 3, 1) := by decide +kernel
theorem dX4_mixOrders_66 : decode cX4_mixOrders 66 = .ok (.lreturn, 1) := by decide +kernel
theorem dX4_mixShips_0 : decode cX4_mixShips 0 = .ok (.lload_n 1, 1) := by decide +kernel
theorem dX4_mixShips_1 : decode cX4_mixShips 1 = .ok (.lstore_n 3, 1) := by decide +kernel
theorem dX4_mixShips_2 : decode cX4_mixShips 2 = .ok (.iconst 0, 1) := by decide +kernel
theorem dX4_mixShips_3 : decode cX4_mixShips 3 = .ok (.istore 5, 2) := by decide +kernel
theorem dX4_mixShips_5 : decode cX4_mixShips 5 = .ok (.iload 5, 2) := by decide +kernel
theorem dX4_mixShips_7 : decode cX4_mixShips 7 = .ok (.iconst 2, 1) := by decide +kernel
theorem dX4_mixShips_8 : decode cX4_mixShips 8 = .ok (.if_icmp .ge 69, 3) := by decide +kernel
theorem dX4_mixShips_11 : decode cX4_mixShips 11 = .ok (.iconst 0, 1) := by decide +kernel
theorem dX4_mixShips_12 : decode cX4_mixShips 12 = .ok (.istore 6, 2) := by decide +kernel
theorem dX4_mixShips_14 : decode cX4_mixShips 14 = .ok (.iload 6, 2) := by decide +kernel
theorem dX4_mixShips_16 : decode cX4_mixShips 16 = .ok (.bipush 6, 2) := by decide +kernel
theorem dX4_mixShips_18 : decode cX4_mixShips 18 = .ok (.if_icmp .ge 23, 3) := by decide +kernel
theorem dX4_mixShips_21 : decode cX4_mixShips 21 = .ok (.lload_n 3, 1) := by decide +kernel
theorem dX4_mixShips_22 : decode cX4_mixShips 22 = .ok (.aload_n 0, 1) := by decide +kernel
theorem dX4_mixShips_23 : decode cX4_mixShips 23 = .ok (.iload 5, 2) := by decide +kernel
theorem dX4_mixShips_25 : decode cX4_mixShips 25 = .ok (.iload 6, 2) := by decide +kernel
theorem dX4_mixShips_27 : decode cX4_mixShips 27 = .ok (.invokevirtual 288, 3) := by decide +kernel
theorem dX4_mixShips_30 : decode cX4_mixShips 30 = .ok (.i2l, 1) := by decide +kernel
theorem dX4_mixShips_31 : decode cX4_mixShips 31 = .ok (.invokestatic 266, 3) := by decide +kernel
theorem dX4_mixShips_34 : decode cX4_mixShips 34 = .ok (.lstore_n 3, 1) := by decide +kernel
theorem dX4_mixShips_35 : decode cX4_mixShips 35 = .ok (.iinc 6 1, 3) := by decide +kernel
theorem dX4_mixShips_38 : decode cX4_mixShips 38 = .ok (.goto (-24), 3) := by decide +kernel
theorem dX4_mixShips_41 : decode cX4_mixShips 41 = .ok (.iconst 0, 1) := by decide +kernel
theorem dX4_mixShips_42 : decode cX4_mixShips 42 = .ok (.istore 6, 2) := by decide +kernel
theorem dX4_mixShips_44 : decode cX4_mixShips 44 = .ok (.iload 6, 2) := by decide +kernel
theorem dX4_mixShips_46 : decode cX4_mixShips 46 = .ok (.bipush 8, 2) := by decide +kernel
theorem dX4_mixShips_48 : decode cX4_mixShips 48 = .ok (.if_icmp .ge 23, 3) := by decide +kernel
theorem dX4_mixShips_51 : decode cX4_mixShips 51 = .ok (.lload_n 3, 1) := by decide +kernel
theorem dX4_mixShips_52 : decode cX4_mixShips 52 = .ok (.aload_n 0, 1) := by decide +kernel
theorem dX4_mixShips_53 : decode cX4_mixShips 53 = .ok (.iload 5, 2) := by decide +kernel
theorem dX4_mixShips_55 : decode cX4_mixShips 55 = .ok (.iload 6, 2) := by decide +kernel
theorem dX4_mixShips_57 : decode cX4_mixShips 57 = .ok (.invokevirtual 291, 3) := by decide +kernel
theorem dX4_mixShips_60 : decode cX4_mixShips 60 = .ok (.i2l, 1) := by decide +kernel
theorem dX4_mixShips_61 : decode cX4_mixShips 61 = .ok (.invokestatic 266, 3) := by decide +kernel
theorem dX4_mixShips_64 : decode cX4_mixShips 64 = .ok (.lstore_n 3, 1) := by decide +kernel
theorem dX4_mixShips_65 : decode cX4_mixShips 65 = .ok (.iinc 6 1, 3) := by decide +kernel
theorem dX4_mixShips_68 : decode cX4_mixShips 68 = .ok (.goto (-24), 3) := by decide +kernel
theorem dX4_mixShips_71 : decode cX4_mixShips 71 = .ok (.iinc 5 1, 3) := by decide +kernel
theorem dX4_mixShips_74 : decode cX4_mixShips 74 = .ok (.goto (-69), 3) := by decide +kernel
theorem dX4_mixShips_77 : decode cX4_mixShips 77 = .ok (.lload_n 3, 1) := by decide +kernel
theorem dX4_mixShips_78 : decode cX4_mixShips 78 = .ok (.lreturn, 1) := by decide +kernel
theorem dX4_mixForecasts_0 : decode cX4_mixForecasts 0 = .ok (.lload_n 1, 1) := by decide +kernel
theorem dX4_mixForecasts_1 : decode cX4_mixForecasts 1 = .ok (.lstore_n 3, 1) := by decide +kernel
theorem dX4_mixForecasts_2 : decode cX4_mixForecasts 2 = .ok (.iconst 0, 1) := by decide +kernel
theorem dX4_mixForecasts_3 : decode cX4_mixForecasts 3 = .ok (.istore 5, 2) := by decide +kernel
theorem dX4_mixForecasts_5 : decode cX4_mixForecasts 5 = .ok (.iload 5, 2) := by decide +kernel
theorem dX4_mixForecasts_7 : decode cX4_mixForecasts 7 = .ok (.iconst 2, 1) := by decide +kernel
theorem dX4_mixForecasts_8 : decode cX4_mixForecasts 8 = .ok (.if_icmp .ge 21, 3) := by decide +kernel
theorem dX4_mixForecasts_11 : decode cX4_mixForecasts 11 = .ok (.lload_n 3, 1) := by decide +kernel
theorem dX4_mixForecasts_12 : decode cX4_mixForecasts 12 = .ok (.aload_n 0, 1) := by decide +kernel
theorem dX4_mixForecasts_13 : decode cX4_mixForecasts 13 = .ok (.iload 5, 2) := by decide +kernel
theorem dX4_mixForecasts_15 : decode cX4_mixForecasts 15 = .ok (.invokevirtual 294, 3) := by decide +kernel
theorem dX4_mixForecasts_18 : decode cX4_mixForecasts 18 = .ok (.i2l, 1) := by decide +kernel
theorem dX4_mixForecasts_19 : decode cX4_mixForecasts 19 = .ok (.invokestatic 266, 3) := by decide +kernel
theorem dX4_mixForecasts_22 : decode cX4_mixForecasts 22 = .ok (.lstore_n 3, 1) := by decide +kernel
theorem dX4_mixForecasts_23 : decode cX4_mixForecasts 23 = .ok (.iinc 5 1, 3) := by decide +kernel
theorem dX4_mixForecasts_26 : decode cX4_mixForecasts 26 = .ok (.goto (-21), 3) := by decide +kernel
theorem dX4_mixForecasts_29 : decode cX4_mixForecasts 29 = .ok (.lload_n 3, 1) := by decide +kernel
theorem dX4_mixForecasts_30 : decode cX4_mixForecasts 30 = .ok (.aload_n 0, 1) := by decide +kernel
theorem dX4_mixForecasts_31 : decode cX4_mixForecasts 31 = .ok (.invokevirtual 297, 3) := by decide +kernel
theorem dX4_mixForecasts_34 : decode cX4_mixForecasts 34 = .ok (.i2l, 1) := by decide +kernel
theorem dX4_mixForecasts_35 : decode cX4_mixForecasts 35 = .ok (.invokestatic 266, 3) := by decide +kernel
theorem dX4_mixForecasts_38 : decode cX4_mixForecasts 38 = .ok (.lstore_n 3, 1) := by decide +kernel
theorem dX4_mixForecasts_39 : decode cX4_mixForecasts 39 = .ok (.iconst 0, 1) := by decide +kernel
theorem dX4_mixForecasts_40 : decode cX4_mixForecasts 40 = .ok (.istore 5, 2) := by decide +kernel
theorem dX4_mixForecasts_42 : decode cX4_mixForecasts 42 = .ok (.iload 5, 2) := by decide +kernel
theorem dX4_mixForecasts_44 : decode cX4_mixForecasts 44 = .ok (.bipush 8, 2) := by decide +kernel
theorem dX4_mixForecasts_46 : decode cX4_mixForecasts 46 = .ok (.if_icmp .ge 31, 3) := by decide +kernel
theorem dX4_mixForecasts_49 : decode cX4_mixForecasts 49 = .ok (.lload_n 3, 1) := by decide +kernel
theorem dX4_mixForecasts_50 : decode cX4_mixForecasts 50 = .ok (.aload_n 0, 1) := by decide +kernel
theorem dX4_mixForecasts_51 : decode cX4_mixForecasts 51 = .ok (.aload_n 0, 1) := by decide +kernel
theorem dX4_mixForecasts_52 : decode cX4_mixForecasts 52 = .ok (.getfield 10, 3) := by decide +kernel
theorem dX4_mixForecasts_55 : decode cX4_mixForecasts 55 = .ok (.getfield 45, 3) := by decide +kernel
theorem dX4_mixForecasts_58 : decode cX4_mixForecasts 58 = .ok (.getfield 173, 3) := by decide +kernel
theorem dX4_mixForecasts_61 : decode cX4_mixForecasts 61 = .ok (.iload 5, 2) := by decide +kernel
theorem dX4_mixForecasts_63 : decode cX4_mixForecasts 63 = .ok (.invokevirtual 300, 3) := by decide +kernel
theorem dX4_mixForecasts_66 : decode cX4_mixForecasts 66 = .ok (.i2l, 1) := by decide +kernel
theorem dX4_mixForecasts_67 : decode cX4_mixForecasts 67 = .ok (.invokestatic 266, 3) := by decide +kernel
theorem dX4_mixForecasts_70 : decode cX4_mixForecasts 70 = .ok (.lstore_n 3, 1) := by decide +kernel
theorem dX4_mixForecasts_71 : decode cX4_mixForecasts 71 = .ok (.iinc 5 1, 3) := by decide +kernel
theorem dX4_mixForecasts_74 : decode cX4_mixForecasts 74 = .ok (.goto (-32), 3) := by decide +kernel
theorem dX4_mixForecasts_77 : decode cX4_mixForecasts 77 = .ok (.lload_n 3, 1) := by decide +kernel
theorem dX4_mixForecasts_78 : decode cX4_mixForecasts 78 = .ok (.lreturn, 1) := by decide +kernel
theorem dX4_isOrder_0 : decode cX4_isOrder 0 = .ok (.iload_n 0, 1) := by decide +kernel
theorem dX4_isOrder_1 : decode cX4_isOrder 1 = .ok (.ifCond .lt 49, 3) := by decide +kernel
theorem dX4_isOrder_4 : decode cX4_isOrder 4 = .ok (.iload_n 0, 1) := by decide +kernel
theorem dX4_isOrder_5 : decode cX4_isOrder 5 = .ok (.iconst 4, 1) := by decide +kernel
theorem dX4_isOrder_6 : decode cX4_isOrder 6 = .ok (.if_icmp .gt 44, 3) := by decide +kernel
theorem dX4_isOrder_9 : decode cX4_isOrder 9 = .ok (.iload_n 1, 1) := by decide +kernel
theorem dX4_isOrder_10 : decode cX4_isOrder 10 = .ok (.invokestatic 303, 3) := by decide +kernel
theorem dX4_isOrder_13 : decode cX4_isOrder 13 = .ok (.ifCond .eq 37, 3) := by decide +kernel
theorem dX4_isOrder_16 : decode cX4_isOrder 16 = .ok (.iload_n 2, 1) := by decide +kernel
theorem dX4_isOrder_17 : decode cX4_isOrder 17 = .ok (.invokestatic 303, 3) := by decide +kernel
theorem dX4_isOrder_20 : decode cX4_isOrder 20 = .ok (.ifCond .eq 30, 3) := by decide +kernel
theorem dX4_isOrder_23 : decode cX4_isOrder 23 = .ok (.iload_n 3, 1) := by decide +kernel
theorem dX4_isOrder_24 : decode cX4_isOrder 24 = .ok (.iconst 1, 1) := by decide +kernel
theorem dX4_isOrder_25 : decode cX4_isOrder 25 = .ok (.if_icmp .lt 25, 3) := by decide +kernel
theorem dX4_isOrder_28 : decode cX4_isOrder 28 = .ok (.iload_n 3, 1) := by decide +kernel
theorem dX4_isOrder_29 : decode cX4_isOrder 29 = .ok (.bipush 99, 2) := by decide +kernel
theorem dX4_isOrder_31 : decode cX4_isOrder 31 = .ok (.if_icmp .gt 19, 3) := by decide +kernel
theorem dX4_isOrder_34 : decode cX4_isOrder 34 = .ok (.iload_n 0, 1) := by decide +kernel
theorem dX4_isOrder_35 : decode cX4_isOrder 35 = .ok (.invokestatic 307, 3) := by decide +kernel
theorem dX4_isOrder_38 : decode cX4_isOrder 38 = .ok (.ifCond .eq 8, 3) := by decide +kernel
theorem dX4_isOrder_41 : decode cX4_isOrder 41 = .ok (.iload_n 1, 1) := by decide +kernel
theorem dX4_isOrder_42 : decode cX4_isOrder 42 = .ok (.iload_n 2, 1) := by decide +kernel
theorem dX4_isOrder_43 : decode cX4_isOrder 43 = .ok (.if_icmp .eq 7, 3) := by decide +kernel
theorem dX4_isOrder_46 : decode cX4_isOrder 46 = .ok (.iconst 1, 1) := by decide +kernel
theorem dX4_isOrder_47 : decode cX4_isOrder 47 = .ok (.goto 4, 3) := by decide +kernel
theorem dX4_isOrder_50 : decode cX4_isOrder 50 = .ok (.iconst 0, 1) := by decide +kernel
theorem dX4_isOrder_51 : decode cX4_isOrder 51 = .ok (.ireturn, 1) := by decide +kernel
theorem dX4_usesHoldB_0 : decode cX4_usesHoldB 0 = .ok (.iload_n 0, 1) := by decide +kernel
theorem dX4_usesHoldB_1 : decode cX4_usesHoldB 1 = .ok (.iconst 2, 1) := by decide +kernel
theorem dX4_usesHoldB_2 : decode cX4_usesHoldB 2 = .ok (.if_icmp .lt 7, 3) := by decide +kernel
theorem dX4_usesHoldB_5 : decode cX4_usesHoldB 5 = .ok (.iconst 1, 1) := by decide +kernel
theorem dX4_usesHoldB_6 : decode cX4_usesHoldB 6 = .ok (.goto 4, 3) := by decide +kernel
theorem dX4_usesHoldB_9 : decode cX4_usesHoldB 9 = .ok (.iconst 0, 1) := by decide +kernel
theorem dX4_usesHoldB_10 : decode cX4_usesHoldB 10 = .ok (.ireturn, 1) := by decide +kernel
theorem dX4_isHold_0 : decode cX4_isHold 0 = .ok (.iload_n 0, 1) := by decide +kernel
theorem dX4_isHold_1 : decode cX4_isHold 1 = .ok (.ifCond .lt 13, 3) := by decide +kernel
theorem dX4_isHold_4 : decode cX4_isHold 4 = .ok (.iload_n 0, 1) := by decide +kernel
theorem dX4_isHold_5 : decode cX4_isHold 5 = .ok (.bipush 8, 2) := by decide +kernel
theorem dX4_isHold_7 : decode cX4_isHold 7 = .ok (.if_icmp .ge 7, 3) := by decide +kernel
theorem dX4_isHold_10 : decode cX4_isHold 10 = .ok (.iconst 1, 1) := by decide +kernel
theorem dX4_isHold_11 : decode cX4_isHold 11 = .ok (.goto 4, 3) := by decide +kernel
theorem dX4_isHold_14 : decode cX4_isHold 14 = .ok (.iconst 0, 1) := by decide +kernel
theorem dX4_isHold_15 : decode cX4_isHold 15 = .ok (.ireturn, 1) := by decide +kernel
theorem dX4_requireHold_0 : decode cX4_requireHold 0 = .ok (.iload_n 0, 1) := by decide +kernel
theorem dX4_requireHold_1 : decode cX4_requireHold 1 = .ok (.invokestatic 303, 3) := by decide +kernel
theorem dX4_requireHold_4 : decode cX4_requireHold 4 = .ok (.ifCond .ne 14, 3) := by decide +kernel
theorem dX4_requireHold_7 : decode cX4_requireHold 7 = .ok (.new 310, 3) := by decide +kernel
theorem dX4_requireHold_10 : decode cX4_requireHold 10 = .ok (.dup, 1) := by decide +kernel
theorem dX4_requireHold_11 : decode cX4_requireHold 11 = .ok (.ldc_w 312, 3) := by decide +kernel
theorem dX4_requireHold_14 : decode cX4_requireHold 14 = .ok (.invokespecial 314, 3) := by decide +kernel
theorem dX4_requireHold_17 : decode cX4_requireHold 17 = .ok (.athrow, 1) := by decide +kernel
theorem dX4_requireHold_18 : decode cX4_requireHold 18 = .ok (.return_, 1) := by decide +kernel
theorem dX4_requireShip_0 : decode cX4_requireShip 0 = .ok (.iload_n 0, 1) := by decide +kernel
theorem dX4_requireShip_1 : decode cX4_requireShip 1 = .ok (.ifCond .lt 8, 3) := by decide +kernel
theorem dX4_requireShip_4 : decode cX4_requireShip 4 = .ok (.iload_n 0, 1) := by decide +kernel
theorem dX4_requireShip_5 : decode cX4_requireShip 5 = .ok (.iconst 2, 1) := by decide +kernel
theorem dX4_requireShip_6 : decode cX4_requireShip 6 = .ok (.if_icmp .lt 14, 3) := by decide +kernel
theorem dX4_requireShip_9 : decode cX4_requireShip 9 = .ok (.new 310, 3) := by decide +kernel
theorem dX4_requireShip_12 : decode cX4_requireShip 12 = .ok (.dup, 1) := by decide +kernel
theorem dX4_requireShip_13 : decode cX4_requireShip 13 = .ok (.ldc_w 315, 3) := by decide +kernel
theorem dX4_requireShip_16 : decode cX4_requireShip 16 = .ok (.invokespecial 314, 3) := by decide +kernel
theorem dX4_requireShip_19 : decode cX4_requireShip 19 = .ok (.athrow, 1) := by decide +kernel
theorem dX4_requireShip_20 : decode cX4_requireShip 20 = .ok (.return_, 1) := by decide +kernel
theorem dX4_requireKept_0 : decode cX4_requireKept 0 = .ok (.aload_n 0, 1) := by decide +kernel
theorem dX4_requireKept_1 : decode cX4_requireKept 1 = .ok (.getfield 10, 3) := by decide +kernel
theorem dX4_requireKept_4 : decode cX4_requireKept 4 = .ok (.getfield 45, 3) := by decide +kernel
theorem dX4_requireKept_7 : decode cX4_requireKept 7 = .ok (.iload_n 1, 1) := by decide +kernel
theorem dX4_requireKept_8 : decode cX4_requireKept 8 = .ok (.invokevirtual 317, 3) := by decide +kernel
theorem dX4_requireKept_11 : decode cX4_requireKept 11 = .ok (.ifCond .ne 14, 3) := by decide +kernel
theorem dX4_requireKept_14 : decode cX4_requireKept 14 = .ok (.new 310, 3) := by decide +kernel
theorem dX4_requireKept_17 : decode cX4_requireKept 17 = .ok (.dup, 1) := by decide +kernel
theorem dX4_requireKept_18 : decode cX4_requireKept 18 = .ok (.ldc_w 320, 3) := by decide +kernel
theorem dX4_requireKept_21 : decode cX4_requireKept 21 = .ok (.invokespecial 314, 3) := by decide +kernel
theorem dX4_requireKept_24 : decode cX4_requireKept 24 = .ok (.athrow, 1) := by decide +kernel
theorem dX4_requireKept_25 : decode cX4_requireKept 25 = .ok (.return_, 1) := by decide +kernel
theorem dX4_saveState_0 : decode cX4_saveState 0 = .ok (.aload_n 0, 1) := by decide +kernel
theorem dX4_saveState_1 : decode cX4_saveState 1 = .ok (.getfield 20, 3) := by decide +kernel
theorem dX4_saveState_4 : decode cX4_saveState 4 = .ok (.iconst 4, 1) := by decide +kernel
theorem dX4_saveState_5 : decode cX4_saveState 5 = .ok (.if_icmp .lt 49, 3) := by decide +kernel
theorem dX4_saveState_8 : decode cX4_saveState 8 = .ok (.aload_n 0, 1) := by decide +kernel
theorem dX4_saveState_9 : decode cX4_saveState 9 = .ok (.getfield 16, 3) := by decide +kernel
theorem dX4_saveState_12 : decode cX4_saveState 12 = .ok (.iconst 0, 1) := by decide +kernel
theorem dX4_saveState_13 : decode cX4_saveState 13 = .ok (.aaload, 1) := by decide +kernel
theorem dX4_saveState_14 : decode cX4_saveState 14 = .ok (.astore_n 1, 1) := by decide +kernel
theorem dX4_saveState_15 : decode cX4_saveState 15 = .ok (.iconst 1, 1) := by decide +kernel
theorem dX4_saveState_16 : decode cX4_saveState 16 = .ok (.istore_n 2, 1) := by decide +kernel
theorem dX4_saveState_17 : decode cX4_saveState 17 = .ok (.iload_n 2, 1) := by decide +kernel
theorem dX4_saveState_18 : decode cX4_saveState 18 = .ok (.iconst 4, 1) := by decide +kernel
theorem dX4_saveState_19 : decode cX4_saveState 19 = .ok (.if_icmp .ge 23, 3) := by decide +kernel
theorem dX4_saveState_22 : decode cX4_saveState 22 = .ok (.aload_n 0, 1) := by decide +kernel
theorem dX4_saveState_23 : decode cX4_saveState 23 = .ok (.getfield 16, 3) := by decide +kernel
theorem dX4_saveState_26 : decode cX4_saveState 26 = .ok (.iload_n 2, 1) := by decide +kernel
theorem dX4_saveState_27 : decode cX4_saveState 27 = .ok (.iconst 1, 1) := by decide +kernel
theorem dX4_saveState_28 : decode cX4_saveState 28 = .ok (.isub, 1) := by decide +kernel
theorem dX4_saveState_29 : decode cX4_saveState 29 = .ok (.aload_n 0, 1) := by decide +kernel
theorem dX4_saveState_30 : decode cX4_saveState 30 = .ok (.getfield 16, 3) := by decide +kernel
theorem dX4_saveState_33 : decode cX4_saveState 33 = .ok (.iload_n 2, 1) := by decide +kernel
theorem dX4_saveState_34 : decode cX4_saveState 34 = .ok (.aaload, 1) := by decide +kernel
theorem dX4_saveState_35 : decode cX4_saveState 35 = .ok (.aastore, 1) := by decide +kernel
theorem dX4_saveState_36 : decode cX4_saveState 36 = .ok (.iinc 2 1, 3) := by decide +kernel
theorem dX4_saveState_39 : decode cX4_saveState 39 = .ok (.goto (-22), 3) := by decide +kernel
theorem dX4_saveState_42 : decode cX4_saveState 42 = .ok (.aload_n 0, 1) := by decide +kernel
theorem dX4_saveState_43 : decode cX4_saveState 43 = .ok (.getfield 16, 3) := by decide +kernel
theorem dX4_saveState_46 : decode cX4_saveState 46 = .ok (.iconst 3, 1) := by decide +kernel
theorem dX4_saveState_47 : decode cX4_saveState 47 = .ok (.aload_n 1, 1) := by decide +kernel
theorem dX4_saveState_48 : decode cX4_saveState 48 = .ok (.aastore, 1) := by decide +kernel
theorem dX4_saveState_49 : decode cX4_saveState 49 = .ok (.aload_n 0, 1) := by decide +kernel
theorem dX4_saveState_50 : decode cX4_saveState 50 = .ok (.iconst 3, 1) := by decide +kernel
theorem dX4_saveState_51 : decode cX4_saveState 51 = .ok (.putfield 20, 3) := by decide +kernel
theorem dX4_saveState_54 : decode cX4_saveState 54 = .ok (.aload_n 0, 1) := by decide +kernel
theorem dX4_saveState_55 : decode cX4_saveState 55 = .ok (.getfield 16, 3) := by decide +kernel
theorem dX4_saveState_58 : decode cX4_saveState 58 = .ok (.aload_n 0, 1) := by decide +kernel
theorem dX4_saveState_59 : decode cX4_saveState 59 = .ok (.getfield 20, 3) := by decide +kernel
theorem dX4_saveState_62 : decode cX4_saveState 62 = .ok (.aaload, 1) := by decide +kernel
theorem dX4_saveState_63 : decode cX4_saveState 63 = .ok (.aload_n 0, 1) := by decide +kernel
theorem dX4_saveState_64 : decode cX4_saveState 64 = .ok (.getfield 10, 3) := by decide +kernel
theorem dX4_saveState_67 : decode cX4_saveState 67 = .ok (.invokevirtual 257, 3) := by decide +kernel
theorem dX4_saveState_70 : decode cX4_saveState 70 = .ok (.aload_n 0, 1) := by decide +kernel
theorem dX4_saveState_71 : decode cX4_saveState 71 = .ok (.dup, 1) := by decide +kernel
theorem dX4_saveState_72 : decode cX4_saveState 72 = .ok (.getfield 20, 3) := by decide +kernel
theorem dX4_saveState_75 : decode cX4_saveState 75 = .ok (.iconst 1, 1) := by decide +kernel
theorem dX4_saveState_76 : decode cX4_saveState 76 = .ok (.iadd, 1) := by decide +kernel
theorem dX4_saveState_77 : decode cX4_saveState 77 = .ok (.putfield 20, 3) := by decide +kernel
theorem dX4_saveState_80 : decode cX4_saveState 80 = .ok (.return_, 1) := by decide +kernel
theorem dX4_obeyCommand_0 : decode cX4_obeyCommand 0 = .ok (.aload_n 0, 1) := by decide +kernel
theorem dX4_obeyCommand_1 : decode cX4_obeyCommand 1 = .ok (.getfield 27, 3) := by decide +kernel
theorem dX4_obeyCommand_4 : decode cX4_obeyCommand 4 = .ok (.getfield 322, 3) := by decide +kernel
theorem dX4_obeyCommand_7 : decode cX4_obeyCommand 7 = .ok (.tableswitch 179 99 118 #[159, 179, 179, 179, 179, 179, 179, 179, 179, 93, 105, 179, 179, 179, 179, 123, 111, 154, 99, 117], 93) := by decide +kernel
theorem dX4_obeyCommand_100 : decode cX4_obeyCommand 100 = .ok (.aload_n 0, 1) := by decide +kernel
theorem dX4_obeyCommand_101 : decode cX4_obeyCommand 101 = .ok (.iconst 0, 1) := by decide +kernel
theorem dX4_obeyCommand_102 : decode cX4_obeyCommand 102 = .ok (.invokevirtual 325, 3) := by decide +kernel
theorem dX4_obeyCommand_105 : decode cX4_obeyCommand 105 = .ok (.ireturn, 1) := by decide +kernel
theorem dX4_obeyCommand_106 : decode cX4_obeyCommand 106 = .ok (.aload_n 0, 1) := by decide +kernel
theorem dX4_obeyCommand_107 : decode cX4_obeyCommand 107 = .ok (.iconst 1, 1) := by decide +kernel
theorem dX4_obeyCommand_108 : decode cX4_obeyCommand 108 = .ok (.invokevirtual 325, 3) := by decide +kernel
theorem dX4_obeyCommand_111 : decode cX4_obeyCommand 111 = .ok (.ireturn, 1) := by decide +kernel
theorem dX4_obeyCommand_112 : decode cX4_obeyCommand 112 = .ok (.aload_n 0, 1) := by decide +kernel
theorem dX4_obeyCommand_113 : decode cX4_obeyCommand 113 = .ok (.iconst 2, 1) := by decide +kernel
theorem dX4_obeyCommand_114 : decode cX4_obeyCommand 114 = .ok (.invokevirtual 325, 3) := by decide +kernel
theorem dX4_obeyCommand_117 : decode cX4_obeyCommand 117 = .ok (.ireturn, 1) := by decide +kernel
theorem dX4_obeyCommand_118 : decode cX4_obeyCommand 118 = .ok (.aload_n 0, 1) := by decide +kernel
theorem dX4_obeyCommand_119 : decode cX4_obeyCommand 119 = .ok (.iconst 3, 1) := by decide +kernel
theorem dX4_obeyCommand_120 : decode cX4_obeyCommand 120 = .ok (.invokevirtual 325, 3) := by decide +kernel
theorem dX4_obeyCommand_123 : decode cX4_obeyCommand 123 = .ok (.ireturn, 1) := by decide +kernel
theorem dX4_obeyCommand_124 : decode cX4_obeyCommand 124 = .ok (.aload_n 0, 1) := by decide +kernel
theorem dX4_obeyCommand_125 : decode cX4_obeyCommand 125 = .ok (.iconst 4, 1) := by decide +kernel
theorem dX4_obeyCommand_126 : decode cX4_obeyCommand 126 = .ok (.invokevirtual 325, 3) := by decide +kernel
theorem dX4_obeyCommand_129 : decode cX4_obeyCommand 129 = .ok (.ireturn, 1) := by decide +kernel
theorem dX4_obeyCommand_130 : decode cX4_obeyCommand 130 = .ok (.aload_n 0, 1) := by decide +kernel
theorem dX4_obeyCommand_131 : decode cX4_obeyCommand 131 = .ok (.getfield 10, 3) := by decide +kernel
theorem dX4_obeyCommand_134 : decode cX4_obeyCommand 134 = .ok (.aload_n 0, 1) := by decide +kernel
theorem dX4_obeyCommand_135 : decode cX4_obeyCommand 135 = .ok (.getfield 10, 3) := by decide +kernel
theorem dX4_obeyCommand_138 : decode cX4_obeyCommand 138 = .ok (.aload_n 0, 1) := by decide +kernel
theorem dX4_obeyCommand_139 : decode cX4_obeyCommand 139 = .ok (.getfield 27, 3) := by decide +kernel
theorem dX4_obeyCommand_142 : decode cX4_obeyCommand 142 = .ok (.getfield 328, 3) := by decide +kernel
theorem dX4_obeyCommand_145 : decode cX4_obeyCommand 145 = .ok (.invokevirtual 95, 3) := by decide +kernel
theorem dX4_obeyCommand_148 : decode cX4_obeyCommand 148 = .ok (.aload_n 0, 1) := by decide +kernel
theorem dX4_obeyCommand_149 : decode cX4_obeyCommand 149 = .ok (.getfield 27, 3) := by decide +kernel
theorem dX4_obeyCommand_152 : decode cX4_obeyCommand 152 = .ok (.getfield 330, 3) := by decide +kernel
theorem dX4_obeyCommand_155 : decode cX4_obeyCommand 155 = .ok (.invokevirtual 99, 3) := by decide +kernel
theorem dX4_obeyCommand_158 : decode cX4_obeyCommand 158 = .ok (.pop, 1) := by decide +kernel
theorem dX4_obeyCommand_159 : decode cX4_obeyCommand 159 = .ok (.iconst 1, 1) := by decide +kernel
theorem dX4_obeyCommand_160 : decode cX4_obeyCommand 160 = .ok (.ireturn, 1) := by decide +kernel
theorem dX4_obeyCommand_161 : decode cX4_obeyCommand 161 = .ok (.aload_n 0, 1) := by decide +kernel
theorem dX4_obeyCommand_162 : decode cX4_obeyCommand 162 = .ok (.invokevirtual 333, 3) := by decide +kernel
theorem dX4_obeyCommand_165 : decode cX4_obeyCommand 165 = .ok (.ireturn, 1) := by decide +kernel
theorem dX4_obeyCommand_166 : decode cX4_obeyCommand 166 = .ok (.aload_n 0, 1) := by decide +kernel
theorem dX4_obeyCommand_167 : decode cX4_obeyCommand 167 = .ok (.getfield 10, 3) := by decide +kernel
theorem dX4_obeyCommand_170 : decode cX4_obeyCommand 170 = .ok (.aload_n 0, 1) := by decide +kernel
theorem dX4_obeyCommand_171 : decode cX4_obeyCommand 171 = .ok (.getfield 27, 3) := by decide +kernel
theorem dX4_obeyCommand_174 : decode cX4_obeyCommand 174 = .ok (.getfield 328, 3) := by decide +kernel
theorem dX4_obeyCommand_177 : decode cX4_obeyCommand 177 = .ok (.invokevirtual 95, 3) := by decide +kernel
theorem dX4_obeyCommand_180 : decode cX4_obeyCommand 180 = .ok (.invokevirtual 115, 3) := by decide +kernel
theorem dX4_obeyCommand_183 : decode cX4_obeyCommand 183 = .ok (.pop, 1) := by decide +kernel
theorem dX4_obeyCommand_184 : decode cX4_obeyCommand 184 = .ok (.iconst 1, 1) := by decide +kernel
theorem dX4_obeyCommand_185 : decode cX4_obeyCommand 185 = .ok (.ireturn, 1) := by decide +kernel
theorem dX4_obeyCommand_186 : decode cX4_obeyCommand 186 = .ok (.iconst 0, 1) := by decide +kernel
theorem dX4_obeyCommand_187 : decode cX4_obeyCommand 187 = .ok (.ireturn, 1) := by decide +kernel
theorem dX4_obeyWrite_0 : decode cX4_obeyWrite 0 = .ok (.iload_n 1, 1) := by decide +kernel
theorem dX4_obeyWrite_1 : decode cX4_obeyWrite 1 = .ok (.aload_n 0, 1) := by decide +kernel
theorem dX4_obeyWrite_2 : decode cX4_obeyWrite 2 = .ok (.getfield 27, 3) := by decide +kernel
theorem dX4_obeyWrite_5 : decode cX4_obeyWrite 5 = .ok (.getfield 328, 3) := by decide +kernel
theorem dX4_obeyWrite_8 : decode cX4_obeyWrite 8 = .ok (.aload_n 0, 1) := by decide +kernel
theorem dX4_obeyWrite_9 : decode cX4_obeyWrite 9 = .ok (.getfield 27, 3) := by decide +kernel
theorem dX4_obeyWrite_12 : decode cX4_obeyWrite 12 = .ok (.getfield 336, 3) := by decide +kernel
theorem dX4_obeyWrite_15 : decode cX4_obeyWrite 15 = .ok (.aload_n 0, 1) := by decide +kernel
theorem dX4_obeyWrite_16 : decode cX4_obeyWrite 16 = .ok (.getfield 27, 3) := by decide +kernel
theorem dX4_obeyWrite_19 : decode cX4_obeyWrite 19 = .ok (.getfield 330, 3) := by decide +kernel
theorem dX4_obeyWrite_22 : decode cX4_obeyWrite 22 = .ok (.invokestatic 59, 3) := by decide +kernel
theorem dX4_obeyWrite_25 : decode cX4_obeyWrite 25 = .ok (.ifCond .eq 16, 3) := by decide +kernel
theorem dX4_obeyWrite_28 : decode cX4_obeyWrite 28 = .ok (.aload_n 0, 1) := by decide +kernel
theorem dX4_obeyWrite_29 : decode cX4_obeyWrite 29 = .ok (.getfield 10, 3) := by decide +kernel
theorem dX4_obeyWrite_32 : decode cX4_obeyWrite 32 = .ok (.getfield 45, 3) := by decide +kernel
theorem dX4_obeyWrite_35 : decode cX4_obeyWrite 35 = .ok (.invokevirtual 65, 3) := by decide +kernel
theorem dX4_obeyWrite_38 : decode cX4_obeyWrite 38 = .ok (.ifCond .eq 5, 3) := by decide +kernel
theorem dX4_obeyWrite_41 : decode cX4_obeyWrite 41 = .ok (.iconst 0, 1) := by decide +kernel
theorem dX4_obeyWrite_42 : decode cX4_obeyWrite 42 = .ok (.ireturn, 1) := by decide +kernel
theorem dX4_obeyWrite_43 : decode cX4_obeyWrite 43 = .ok (.aload_n 0, 1) := by decide +kernel
theorem dX4_obeyWrite_44 : decode cX4_obeyWrite 44 = .ok (.getfield 10, 3) := by decide +kernel
theorem dX4_obeyWrite_47 : decode cX4_obeyWrite 47 = .ok (.getfield 45, 3) := by decide +kernel
theorem dX4_obeyWrite_50 : decode cX4_obeyWrite 50 = .ok (.iload_n 1, 1) := by decide +kernel
theorem dX4_obeyWrite_51 : decode cX4_obeyWrite 51 = .ok (.aload_n 0, 1) := by decide +kernel
theorem dX4_obeyWrite_52 : decode cX4_obeyWrite 52 = .ok (.getfield 27, 3) := by decide +kernel
theorem dX4_obeyWrite_55 : decode cX4_obeyWrite 55 = .ok (.getfield 328, 3) := by decide +kernel
theorem dX4_obeyWrite_58 : decode cX4_obeyWrite 58 = .ok (.aload_n 0, 1) := by decide +kernel
theorem dX4_obeyWrite_59 : decode cX4_obeyWrite 59 = .ok (.getfield 27, 3) := by decide +kernel
theorem dX4_obeyWrite_62 : decode cX4_obeyWrite 62 = .ok (.getfield 336, 3) := by decide +kernel
theorem dX4_obeyWrite_65 : decode cX4_obeyWrite 65 = .ok (.aload_n 0, 1) := by decide +kernel
theorem dX4_obeyWrite_66 : decode cX4_obeyWrite 66 = .ok (.getfield 27, 3) := by decide +kernel
theorem dX4_obeyWrite_69 : decode cX4_obeyWrite 69 = .ok (.getfield 330, 3) := by decide +kernel
theorem dX4_obeyWrite_72 : decode cX4_obeyWrite 72 = .ok (.invokevirtual 74, 3) := by decide +kernel
theorem dX4_obeyWrite_75 : decode cX4_obeyWrite 75 = .ok (.pop, 1) := by decide +kernel
theorem dX4_obeyWrite_76 : decode cX4_obeyWrite 76 = .ok (.iconst 1, 1) := by decide +kernel
theorem dX4_obeyWrite_77 : decode cX4_obeyWrite 77 = .ok (.ireturn, 1) := by decide +kernel
theorem dX4_obeySnapshot_0 : decode cX4_obeySnapshot 0 = .ok (.aload_n 0, 1) := by decide +kernel
theorem dX4_obeySnapshot_1 : decode cX4_obeySnapshot 1 = .ok (.getfield 10, 3) := by decide +kernel
theorem dX4_obeySnapshot_4 : decode cX4_obeySnapshot 4 = .ok (.aload_n 0, 1) := by decide +kernel
theorem dX4_obeySnapshot_5 : decode cX4_obeySnapshot 5 = .ok (.getfield 27, 3) := by decide +kernel
theorem dX4_obeySnapshot_8 : decode cX4_obeySnapshot 8 = .ok (.getfield 328, 3) := by decide +kernel
theorem dX4_obeySnapshot_11 : decode cX4_obeySnapshot 11 = .ok (.invokevirtual 95, 3) := by decide +kernel
theorem dX4_obeySnapshot_14 : decode cX4_obeySnapshot 14 = .ok (.astore_n 1, 1) := by decide +kernel
theorem dX4_obeySnapshot_15 : decode cX4_obeySnapshot 15 = .ok (.aload_n 1, 1) := by decide +kernel
theorem dX4_obeySnapshot_16 : decode cX4_obeySnapshot 16 = .ok (.getfield 103, 3) := by decide +kernel
theorem dX4_obeySnapshot_19 : decode cX4_obeySnapshot 19 = .ok (.ifCond .ne 5, 3) := by decide +kernel
theorem dX4_obeySnapshot_22 : decode cX4_obeySnapshot 22 = .ok (.iconst 0, 1) := by decide +kernel
theorem dX4_obeySnapshot_23 : decode cX4_obeySnapshot 23 = .ok (.ireturn, 1) := by decide +kernel
theorem dX4_obeySnapshot_24 : decode cX4_obeySnapshot 24 = .ok (.aload_n 0, 1) := by decide +kernel
theorem dX4_obeySnapshot_25 : decode cX4_obeySnapshot 25 = .ok (.getfield 10, 3) := by decide +kernel
theorem dX4_obeySnapshot_28 : decode cX4_obeySnapshot 28 = .ok (.aload_n 1, 1) := by decide +kernel
theorem dX4_obeySnapshot_29 : decode cX4_obeySnapshot 29 = .ok (.invokevirtual 111, 3) := by decide +kernel
theorem dX4_obeySnapshot_32 : decode cX4_obeySnapshot 32 = .ok (.pop, 1) := by decide +kernel
theorem dX4_obeySnapshot_33 : decode cX4_obeySnapshot 33 = .ok (.iconst 1, 1) := by decide +kernel
theorem dX4_obeySnapshot_34 : decode cX4_obeySnapshot 34 = .ok (.ireturn, 1) := by decide +kernel
theorem dX5_init_0 : decode cX5_init 0 = .ok (.aload_n 0, 1) := by decide +kernel
theorem dX5_init_1 : decode cX5_init 1 = .ok (.invokespecial 1, 3) := by decide +kernel
theorem dX5_init_4 : decode cX5_init 4 = .ok (.aload_n 0, 1) := by decide +kernel
theorem dX5_init_5 : decode cX5_init 5 = .ok (.sipush 206, 3) := by decide +kernel
theorem dX5_init_8 : decode cX5_init 8 = .ok (.newarray .int, 2) := by decide +kernel
theorem dX5_init_10 : decode cX5_init 10 = .ok (.putfield 7, 3) := by decide +kernel
theorem dX5_init_13 : decode cX5_init 13 = .ok (.aload_n 0, 1) := by decide +kernel
theorem dX5_init_14 : decode cX5_init 14 = .ok (.sipush 824, 3) := by decide +kernel
theorem dX5_init_17 : decode cX5_init 17 = .ok (.newarray .int, 2) := by decide +kernel
theorem dX5_init_19 : decode cX5_init 19 = .ok (.putfield 13, 3) := by decide +kernel
theorem dX5_init_22 : decode cX5_init 22 = .ok (.aload_n 0, 1) := by decide +kernel
theorem dX5_init_23 : decode cX5_init 23 = .ok (.sipush 206, 3) := by decide +kernel
theorem dX5_init_26 : decode cX5_init 26 = .ok (.newarray .int, 2) := by decide +kernel
theorem dX5_init_28 : decode cX5_init 28 = .ok (.putfield 16, 3) := by decide +kernel
theorem dX5_init_31 : decode cX5_init 31 = .ok (.aload_n 0, 1) := by decide +kernel
theorem dX5_init_32 : decode cX5_init 32 = .ok (.bipush 100, 2) := by decide +kernel
theorem dX5_init_34 : decode cX5_init 34 = .ok (.newarray .int, 2) := by decide +kernel
theorem dX5_init_36 : decode cX5_init 36 = .ok (.putfield 19, 3) := by decide +kernel
theorem dX5_init_39 : decode cX5_init 39 = .ok (.aload_n 0, 1) := by decide +kernel
theorem dX5_init_40 : decode cX5_init 40 = .ok (.bipush 8, 2) := by decide +kernel
theorem dX5_init_42 : decode cX5_init 42 = .ok (.newarray .int, 2) := by decide +kernel
theorem dX5_init_44 : decode cX5_init 44 = .ok (.putfield 22, 3) := by decide +kernel
theorem dX5_init_47 : decode cX5_init 47 = .ok (.aload_n 0, 1) := by decide +kernel
theorem dX5_init_48 : decode cX5_init 48 = .ok (.bipush 8, 2) := by decide +kernel
theorem dX5_init_50 : decode cX5_init 50 = .ok (.invokevirtual 25, 3) := by decide +kernel
theorem dX5_init_53 : decode cX5_init 53 = .ok (.return_, 1) := by decide +kernel
theorem dX5_thrown_0 : decode cX5_thrown 0 = .ok (.aload_n 0, 1) := by decide +kernel
theorem dX5_thrown_1 : decode cX5_thrown 1 = .ok (.getfield 29, 3) := by decide +kernel
theorem dX5_thrown_4 : decode cX5_thrown 4 = .ok (.ireturn, 1) := by decide +kernel
theorem dX5_fails_0 : decode cX5_fails 0 = .ok (.aload_n 0, 1) := by decide +kernel
theorem dX5_fails_1 : decode cX5_fails 1 = .ok (.iload_n 1, 1) := by decide +kernel
theorem dX5_fails_2 : decode cX5_fails 2 = .ok (.putfield 29, 3) := by decide +kernel
theorem dX5_fails_5 : decode cX5_fails 5 = .ok (.iconst 0, 1) := by decide +kernel
theorem dX5_fails_6 : decode cX5_fails 6 = .ok (.ireturn, 1) := by decide +kernel
theorem dX5_well_0 : decode cX5_well 0 = .ok (.aload_n 0, 1) := by decide +kernel
theorem dX5_well_1 : decode cX5_well 1 = .ok (.iconst 0, 1) := by decide +kernel
theorem dX5_well_2 : decode cX5_well 2 = .ok (.putfield 29, 3) := by decide +kernel
theorem dX5_well_5 : decode cX5_well 5 = .ok (.iload_n 1, 1) := by decide +kernel
theorem dX5_well_6 : decode cX5_well 6 = .ok (.ireturn, 1) := by decide +kernel
theorem dX5_in_0 : decode cX5_in 0 = .ok (.iload_n 0, 1) := by decide +kernel
theorem dX5_in_1 : decode cX5_in 1 = .ok (.iload_n 1, 1) := by decide +kernel
theorem dX5_in_2 : decode cX5_in 2 = .ok (.if_icmp .lt 12, 3) := by decide +kernel
theorem dX5_in_5 : decode cX5_in 5 = .ok (.iload_n 0, 1) := by decide +kernel
theorem dX5_in_6 : decode cX5_in 6 = .ok (.iload_n 2, 1) := by decide +kernel
theorem dX5_in_7 : decode cX5_in 7 = .ok (.if_icmp .gt 7, 3) := by decide +kernel
theorem dX5_in_10 : decode cX5_in 10 = .ok (.iconst 1, 1) := by decide +kernel
theorem dX5_in_11 : decode cX5_in 11 = .ok (.goto 4, 3) := by decide +kernel
theorem dX5_in_14 : decode cX5_in 14 = .ok (.iconst 0, 1) := by decide +kernel
theorem dX5_in_15 : decode cX5_in 15 = .ok (.ireturn, 1) := by decide +kernel
theorem dX5_fresh_0 : decode cX5_fresh 0 = .ok (.iconst 0, 1) := by decide +kernel
theorem dX5_fresh_1 : decode cX5_fresh 1 = .ok (.istore_n 2, 1) := by decide +kernel
theorem dX5_fresh_2 : decode cX5_fresh 2 = .ok (.iload_n 2, 1) := by decide +kernel
theorem dX5_fresh_3 : decode cX5_fresh 3 = .ok (.sipush 206, 3) := by decide +kernel
theorem dX5_fresh_6 : decode cX5_fresh 6 = .ok (.if_icmp .ge 16, 3) := by decide +kernel
theorem dX5_fresh_9 : decode cX5_fresh 9 = .ok (.aload_n 0, 1) := by decide +kernel
theorem dX5_fresh_10 : decode cX5_fresh 10 = .ok (.getfield 7, 3) := by decide +kernel
theorem dX5_fresh_13 : decode cX5_fresh 13 = .ok (.iload_n 2, 1) := by decide +kernel
theorem dX5_fresh_14 : decode cX5_fresh 14 = .ok (.iconst 0, 1) := by decide +kernel
theorem dX5_fresh_15 : decode cX5_fresh 15 = .ok (.iastore, 1) := by decide +kernel
theorem dX5_fresh_16 : decode cX5_fresh 16 = .ok (.iinc 2 1, 3) := by decide +kernel
theorem dX5_fresh_19 : decode cX5_fresh 19 = .ok (.goto (-17), 3) := by decide +kernel
theorem dX5_fresh_22 : decode cX5_fresh 22 = .ok (.aload_n 0, 1) := by decide +kernel
theorem dX5_fresh_23 : decode cX5_fresh 23 = .ok (.getfield 7, 3) := by decide +kernel
theorem dX5_fresh_26 : decode cX5_fresh 26 = .ok (.iconst 0, 1) := by decide +kernel
theorem dX5_fresh_27 : decode cX5_fresh 27 = .ok (.iload_n 1, 1) := by decide +kernel
theorem dX5_fresh_28 : decode cX5_fresh 28 = .ok (.iastore, 1) := by decide +kernel
theorem dX5_fresh_29 : decode cX5_fresh 29 = .ok (.aload_n 0, 1) := by decide +kernel
theorem dX5_fresh_30 : decode cX5_fresh 30 = .ok (.getfield 7, 3) := by decide +kernel
theorem dX5_fresh_33 : decode cX5_fresh 33 = .ok (.sipush 165, 3) := by decide +kernel
theorem dX5_fresh_36 : decode cX5_fresh 36 = .ok (.iconst 1, 1) := by decide +kernel
theorem dX5_fresh_37 : decode cX5_fresh 37 = .ok (.iastore, 1) := by decide +kernel
theorem dX5_fresh_38 : decode cX5_fresh 38 = .ok (.aload_n 0, 1) := by decide +kernel
theorem dX5_fresh_39 : decode cX5_fresh 39 = .ok (.getfield 7, 3) := by decide +kernel
theorem dX5_fresh_42 : decode cX5_fresh 42 = .ok (.sipush 186, 3) := by decide +kernel
theorem dX5_fresh_45 : decode cX5_fresh 45 = .ok (.iconst 1, 1) := by decide +kernel
theorem dX5_fresh_46 : decode cX5_fresh 46 = .ok (.iastore, 1) := by decide +kernel
theorem dX5_fresh_47 : decode cX5_fresh 47 = .ok (.return_, 1) := by decide +kernel
theorem dX5_of_0 : decode cX5_of 0 = .ok (.aload_n 0, 1) := by decide +kernel
theorem dX5_of_1 : decode cX5_of 1 = .ok (.getfield 7, 3) := by decide +kernel
theorem dX5_of_4 : decode cX5_of 4 = .ok (.sipush 164, 3) := by decide +kernel
theorem dX5_of_7 : decode cX5_of 7 = .ok (.bipush 21, 2) := by decide +kernel
theorem dX5_of_9 : decode cX5_of 9 = .ok (.iload_n 1, 1) := by decide +kernel
theorem dX5_of_10 : decode cX5_of 10 = .ok (.imul, 1) := by decide +kernel
theorem dX5_of_11 : decode cX5_of 11 = .ok (.iadd, 1) := by decide +kernel
theorem dX5_of_12 : decode cX5_of 12 = .ok (.iload_n 2, 1) := by decide +kernel
theorem dX5_of_13 : decode cX5_of 13 = .ok (.iadd, 1) := by decide +kernel
theorem dX5_of_14 : decode cX5_of 14 = .ok (.iaload, 1) := by decide +kernel
theorem dX5_of_15 : decode cX5_of 15 = .ok (.ireturn, 1) := by decide +kernel
theorem dX5_puts_0 : decode cX5_puts 0 = .ok (.aload_n 0, 1) := by decide +kernel
theorem dX5_puts_1 : decode cX5_puts 1 = .ok (.getfield 7, 3) := by decide +kernel
theorem dX5_puts_4 : decode cX5_puts 4 = .ok (.sipush 164, 3) := by decide +kernel
theorem dX5_puts_7 : decode cX5_puts 7 = .ok (.bipush 21, 2) := by decide +kernel
theorem dX5_puts_9 : decode cX5_puts 9 = .ok (.iload_n 1, 1) := by decide +kernel
theorem dX5_puts_10 : decode cX5_puts 10 = .ok (.imul, 1) := by decide +kernel
theorem dX5_puts_11 : decode cX5_puts 11 = .ok (.iadd, 1) := by decide +kernel
theorem dX5_puts_12 : decode cX5_puts 12 = .ok (.iload_n 2, 1) := by decide +kernel
theorem dX5_puts_13 : decode cX5_puts 13 = .ok (.iadd, 1) := by decide +kernel
theorem dX5_puts_14 : decode cX5_puts 14 = .ok (.iload_n 3, 1) := by decide +kernel
theorem dX5_puts_15 : decode cX5_puts 15 = .ok (.iastore, 1) := by decide +kernel
theorem dX5_puts_16 : decode cX5_puts 16 = .ok (.return_, 1) := by decide +kernel
theorem dX5_told_0 : decode cX5_told 0 = .ok (.aload_n 0, 1) := by decide +kernel
theorem dX5_told_1 : decode cX5_told 1 = .ok (.getfield 7, 3) := by decide +kernel
theorem dX5_told_4 : decode cX5_told 4 = .ok (.iconst 4, 1) := by decide +kernel
theorem dX5_told_5 : decode cX5_told 5 = .ok (.iconst 5, 1) := by decide +kernel
theorem dX5_told_6 : decode cX5_told 6 = .ok (.iload_n 1, 1) := by decide +kernel
theorem dX5_told_7 : decode cX5_told 7 = .ok (.bipush 32, 2) := by decide +kernel
theorem dX5_told_9 : decode cX5_told 9 = .ok (.irem, 1) := by decide +kernel
theorem dX5_told_10 : decode cX5_told 10 = .ok (.imul, 1) := by decide +kernel
theorem dX5_told_11 : decode cX5_told 11 = .ok (.iadd, 1) := by decide +kernel
theorem dX5_told_12 : decode cX5_told 12 = .ok (.iload_n 2, 1) := by decide +kernel
theorem dX5_told_13 : decode cX5_told 13 = .ok (.iadd, 1) := by decide +kernel
theorem dX5_told_14 : decode cX5_told 14 = .ok (.iaload, 1) := by decide +kernel
theorem dX5_told_15 : decode cX5_told 15 = .ok (.ireturn, 1) := by decide +kernel
theorem dX5_tells_0 : decode cX5_tells 0 = .ok (.aload_n 0, 1) := by decide +kernel
theorem dX5_tells_1 : decode cX5_tells 1 = .ok (.getfield 7, 3) := by decide +kernel
theorem dX5_tells_4 : decode cX5_tells 4 = .ok (.iconst 4, 1) := by decide +kernel
theorem dX5_tells_5 : decode cX5_tells 5 = .ok (.iconst 5, 1) := by decide +kernel
theorem dX5_tells_6 : decode cX5_tells 6 = .ok (.iload_n 1, 1) := by decide +kernel
theorem dX5_tells_7 : decode cX5_tells 7 = .ok (.bipush 32, 2) := by decide +kernel
theorem dX5_tells_9 : decode cX5_tells 9 = .ok (.irem, 1) := by decide +kernel
theorem dX5_tells_10 : decode cX5_tells 10 = .ok (.imul, 1) := by decide +kernel
theorem dX5_tells_11 : decode cX5_tells 11 = .ok (.iadd, 1) := by decide +kernel
theorem dX5_tells_12 : decode cX5_tells 12 = .ok (.iload_n 2, 1) := by decide +kernel
theorem dX5_tells_13 : decode cX5_tells 13 = .ok (.iadd, 1) := by decide +kernel
theorem dX5_tells_14 : decode cX5_tells 14 = .ok (.iload_n 3, 1) := by decide +kernel
theorem dX5_tells_15 : decode cX5_tells 15 = .ok (.iastore, 1) := by decide +kernel
theorem dX5_tells_16 : decode cX5_tells 16 = .ok (.return_, 1) := by decide +kernel
theorem dX5_isShip_0 : decode cX5_isShip 0 = .ok (.iload_n 0, 1) := by decide +kernel
theorem dX5_isShip_1 : decode cX5_isShip 1 = .ok (.iconst 0, 1) := by decide +kernel
theorem dX5_isShip_2 : decode cX5_isShip 2 = .ok (.iconst 1, 1) := by decide +kernel
theorem dX5_isShip_3 : decode cX5_isShip 3 = .ok (.invokestatic 33, 3) := by decide +kernel
theorem dX5_isShip_6 : decode cX5_isShip 6 = .ok (.ireturn, 1) := by decide +kernel
theorem dX5_isKept_0 : decode cX5_isKept 0 = .ok (.iload_n 1, 1) := by decide +kernel
theorem dX5_isKept_1 : decode cX5_isKept 1 = .ok (.aload_n 0, 1) := by decide +kernel
theorem dX5_isKept_2 : decode cX5_isKept 2 = .ok (.getfield 7, 3) := by decide +kernel
theorem dX5_isKept_5 : decode cX5_isKept 5 = .ok (.iconst 1, 1) := by decide +kernel
theorem dX5_isKept_6 : decode cX5_isKept 6 = .ok (.iaload, 1) := by decide +kernel
theorem dX5_isKept_7 : decode cX5_isKept 7 = .ok (.aload_n 0, 1) := by decide +kernel
theorem dX5_isKept_8 : decode cX5_isKept 8 = .ok (.getfield 7, 3) := by decide +kernel
theorem dX5_isKept_11 : decode cX5_isKept 11 = .ok (.iconst 2, 1) := by decide +kernel
theorem dX5_isKept_12 : decode cX5_isKept 12 = .ok (.iaload, 1) := by decide +kernel
theorem dX5_isKept_13 : decode cX5_isKept 13 = .ok (.iconst 1, 1) := by decide +kernel
theorem dX5_isKept_14 : decode cX5_isKept 14 = .ok (.isub, 1) := by decide +kernel
theorem dX5_isKept_15 : decode cX5_isKept 15 = .ok (.invokestatic 33, 3) := by decide +kernel
theorem dX5_isKept_18 : decode cX5_isKept 18 = .ok (.ireturn, 1) := by decide +kernel
theorem dX5_isReadable_0 : decode cX5_isReadable 0 = .ok (.aload_n 0, 1) := by decide +kernel
theorem dX5_isReadable_1 : decode cX5_isReadable 1 = .ok (.iload_n 1, 1) := by decide +kernel
theorem dX5_isReadable_2 : decode cX5_isReadable 2 = .ok (.iconst 4, 1) := by decide +kernel
theorem dX5_isReadable_3 : decode cX5_isReadable 3 = .ok (.invokevirtual 37, 3) := by decide +kernel
theorem dX5_isReadable_6 : decode cX5_isReadable 6 = .ok (.iconst 3, 1) := by decide +kernel
theorem dX5_isReadable_7 : decode cX5_isReadable 7 = .ok (.if_icmp .eq 7, 3) := by decide +kernel
theorem dX5_isReadable_10 : decode cX5_isReadable 10 = .ok (.iconst 1, 1) := by decide +kernel
theorem dX5_isReadable_11 : decode cX5_isReadable 11 = .ok (.goto 4, 3) := by decide +kernel
theorem dX5_isReadable_14 : decode cX5_isReadable 14 = .ok (.iconst 0, 1) := by decide +kernel
theorem dX5_isReadable_15 : decode cX5_isReadable 15 = .ok (.ireturn, 1) := by decide +kernel
theorem dX5_many_0 : decode cX5_many 0 = .ok (.aload_n 0, 1) := by decide +kernel
theorem dX5_many_1 : decode cX5_many 1 = .ok (.getfield 7, 3) := by decide +kernel
theorem dX5_many_4 : decode cX5_many 4 = .ok (.iconst 2, 1) := by decide +kernel
theorem dX5_many_5 : decode cX5_many 5 = .ok (.iaload, 1) := by decide +kernel
theorem dX5_many_6 : decode cX5_many 6 = .ok (.aload_n 0, 1) := by decide +kernel
theorem dX5_many_7 : decode cX5_many 7 = .ok (.getfield 7, 3) := by decide +kernel
theorem dX5_many_10 : decode cX5_many 10 = .ok (.iconst 1, 1) := by decide +kernel
theorem dX5_many_11 : decode cX5_many 11 = .ok (.iaload, 1) := by decide +kernel
theorem dX5_many_12 : decode cX5_many 12 = .ok (.isub, 1) := by decide +kernel
theorem dX5_many_13 : decode cX5_many 13 = .ok (.ireturn, 1) := by decide +kernel
theorem dX5_asides_0 : decode cX5_asides 0 = .ok (.iconst 0, 1) := by decide +kernel
theorem dX5_asides_1 : decode cX5_asides 1 = .ok (.istore_n 1, 1) := by decide +kernel
theorem dX5_asides_2 : decode cX5_asides 2 = .ok (.iload_n 1, 1) := by decide +kernel
theorem dX5_asides_3 : decode cX5_asides 3 = .ok (.sipush 206, 3) := by decide +kernel
theorem dX5_asides_6 : decode cX5_asides 6 = .ok (.if_icmp .ge 21, 3) := by decide +kernel
theorem dX5_asides_9 : decode cX5_asides 9 = .ok (.aload_n 0, 1) := by decide +kernel
theorem dX5_asides_10 : decode cX5_asides 10 = .ok (.getfield 16, 3) := by decide +kernel
theorem dX5_asides_13 : decode cX5_asides 13 = .ok (.iload_n 1, 1) := by decide +kernel
theorem dX5_asides_14 : decode cX5_asides 14 = .ok (.aload_n 0, 1) := by decide +kernel
theorem dX5_asides_15 : decode cX5_asides 15 = .ok (.getfield 7, 3) := by decide +kernel
theorem dX5_asides_18 : decode cX5_asides 18 = .ok (.iload_n 1, 1) := by decide +kernel
theorem dX5_asides_19 : decode cX5_asides 19 = .ok (.iaload, 1) := by decide +kernel
theorem dX5_asides_20 : decode cX5_asides 20 = .ok (.iastore, 1) := by decide +kernel
theorem dX5_asides_21 : decode cX5_asides 21 = .ok (.iinc 1 1, 3) := by decide +kernel
theorem dX5_asides_24 : decode cX5_asides 24 = .ok (.goto (-22), 3) := by decide +kernel
theorem dX5_asides_27 : decode cX5_asides 27 = .ok (.return_, 1) := by decide +kernel
theorem dX5_saves_0 : decode cX5_saves 0 = .ok (.aload_n 0, 1) := by decide +kernel
theorem dX5_saves_1 : decode cX5_saves 1 = .ok (.getfield 41, 3) := by decide +kernel
theorem dX5_saves_4 : decode cX5_saves 4 = .ok (.iconst 4, 1) := by decide +kernel
theorem dX5_saves_5 : decode cX5_saves 5 = .ok (.if_icmp .ne 41, 3) := by decide +kernel
theorem dX5_saves_8 : decode cX5_saves 8 = .ok (.sipush 206, 3) := by decide +kernel
theorem dX5_saves_11 : decode cX5_saves 11 = .ok (.istore_n 1, 1) := by decide +kernel
theorem dX5_saves_12 : decode cX5_saves 12 = .ok (.iload_n 1, 1) := by decide +kernel
theorem dX5_saves_13 : decode cX5_saves 13 = .ok (.sipush 824, 3) := by decide +kernel
theorem dX5_saves_16 : decode cX5_saves 16 = .ok (.if_icmp .ge 25, 3) := by decide +kernel
theorem dX5_saves_19 : decode cX5_saves 19 = .ok (.aload_n 0, 1) := by decide +kernel
theorem dX5_saves_20 : decode cX5_saves 20 = .ok (.getfield 13, 3) := by decide +kernel
theorem dX5_saves_23 : decode cX5_saves 23 = .ok (.iload_n 1, 1) := by decide +kernel
theorem dX5_saves_24 : decode cX5_saves 24 = .ok (.sipush 206, 3) := by decide +kernel
theorem dX5_saves_27 : decode cX5_saves 27 = .ok (.isub, 1) := by decide +kernel
theorem dX5_saves_28 : decode cX5_saves 28 = .ok (.aload_n 0, 1) := by decide +kernel
theorem dX5_saves_29 : decode cX5_saves 29 = .ok (.getfield 13, 3) := by decide +kernel
theorem dX5_saves_32 : decode cX5_saves 32 = .ok (.iload_n 1, 1) := by decide +kernel
theorem dX5_saves_33 : decode cX5_saves 33 = .ok (.iaload, 1) := by decide +kernel
theorem dX5_saves_34 : decode cX5_saves 34 = .ok (.iastore, 1) := by decide +kernel
theorem dX5_saves_35 : decode cX5_saves 35 = .ok (.iinc 1 1, 3) := by decide +kernel
theorem dX5_saves_38 : decode cX5_saves 38 = .ok (.goto (-26), 3) := by decide +kernel
theorem dX5_saves_41 : decode cX5_saves 41 = .ok (.aload_n 0, 1) := by decide +kernel
theorem dX5_saves_42 : decode cX5_saves 42 = .ok (.iconst 3, 1) := by decide +kernel
theorem dX5_saves_43 : decode cX5_saves 43 = .ok (.putfield 41, 3) := by decide +kernel
theorem dX5_saves_46 : decode cX5_saves 46 = .ok (.iconst 0, 1) := by decide +kernel
theorem dX5_saves_47 : decode cX5_saves 47 = .ok (.istore_n 1, 1) := by decide +kernel
theorem dX5_saves_48 : decode cX5_saves 48 = .ok (.iload_n 1, 1) := by decide +kernel
theorem dX5_saves_49 : decode cX5_saves 49 = .ok (.sipush 206, 3) := by decide +kernel
theorem dX5_saves_52 : decode cX5_saves 52 = .ok (.if_icmp .ge 30, 3) := by decide +kernel
theorem dX5_saves_55 : decode cX5_saves 55 = .ok (.aload_n 0, 1) := by decide +kernel
theorem dX5_saves_56 : decode cX5_saves 56 = .ok (.getfield 13, 3) := by decide +kernel
theorem dX5_saves_59 : decode cX5_saves 59 = .ok (.sipush 206, 3) := by decide +kernel
theorem dX5_saves_62 : decode cX5_saves 62 = .ok (.aload_n 0, 1) := by decide +kernel
theorem dX5_saves_63 : decode cX5_saves 63 = .ok (.getfield 41, 3) := by decide +kernel
theorem dX5_saves_66 : decode cX5_saves 66 = .ok (.imul, 1) := by decide +kernel
theorem dX5_saves_67 : decode cX5_saves 67 = .ok (.iload_n 1, 1) := by decide +kernel
theorem dX5_saves_68 : decode cX5_saves 68 = .ok (.iadd, 1) := by decide +kernel
theorem dX5_saves_69 : decode cX5_saves 69 = .ok (.aload_n 0, 1) := by decide +kernel
theorem dX5_saves_70 : decode cX5_saves 70 = .ok (.getfield 16, 3) := by decide +kernel
theorem dX5_saves_73 : decode cX5_saves 73 = .ok (.iload_n 1, 1) := by decide +kernel
theorem dX5_saves_74 : decode cX5_saves 74 = .ok (.iaload, 1) := by decide +kernel
theorem dX5_saves_75 : decode cX5_saves 75 = .ok (.iastore, 1) := by decide +kernel
theorem dX5_saves_76 : decode cX5_saves 76 = .ok (.iinc 1 1, 3) := by decide +kernel
theorem dX5_saves_79 : decode cX5_saves 79 = .ok (.goto (-31), 3) := by decide +kernel
theorem dX5_saves_82 : decode cX5_saves 82 = .ok (.aload_n 0, 1) := by decide +kernel
theorem dX5_saves_83 : decode cX5_saves 83 = .ok (.dup, 1) := by decide +kernel
theorem dX5_saves_84 : decode cX5_saves 84 = .ok (.getfield 41, 3) := by decide +kernel
theorem dX5_saves_87 : decode cX5_saves 87 = .ok (.iconst 1, 1) := by decide +kernel
theorem dX5_saves_88 : decode cX5_saves 88 = .ok (.iadd, 1) := by decide +kernel
theorem dX5_saves_89 : decode cX5_saves 89 = .ok (.putfield 41, 3) := by decide +kernel
theorem dX5_saves_92 : decode cX5_saves 92 = .ok (.return_, 1) := by decide +kernel
theorem dX5_ends_0 : decode cX5_ends 0 = .ok (.iload_n 1, 1) := by decide +kernel
theorem dX5_ends_1 : decode cX5_ends 1 = .ok (.ifCond .le 9, 3) := by decide +kernel
theorem dX5_ends_4 : decode cX5_ends 4 = .ok (.aload_n 0, 1) := by decide +kernel
theorem dX5_ends_5 : decode cX5_ends 5 = .ok (.iload_n 1, 1) := by decide +kernel
theorem dX5_ends_6 : decode cX5_ends 6 = .ok (.invokevirtual 44, 3) := by decide +kernel
theorem dX5_ends_9 : decode cX5_ends 9 = .ok (.ireturn, 1) := by decide +kernel
theorem dX5_ends_10 : decode cX5_ends 10 = .ok (.aload_n 0, 1) := by decide +kernel
theorem dX5_ends_11 : decode cX5_ends 11 = .ok (.invokevirtual 48, 3) := by decide +kernel
theorem dX5_ends_14 : decode cX5_ends 14 = .ok (.aload_n 0, 1) := by decide +kernel
theorem dX5_ends_15 : decode cX5_ends 15 = .ok (.aload_n 0, 1) := by decide +kernel
theorem dX5_ends_16 : decode cX5_ends 16 = .ok (.getfield 51, 3) := by decide +kernel
theorem dX5_ends_19 : decode cX5_ends 19 = .ok (.invokevirtual 54, 3) := by decide +kernel
theorem dX5_ends_22 : decode cX5_ends 22 = .ok (.ireturn, 1) := by decide +kernel
theorem dX5_undo_0 : decode cX5_undo 0 = .ok (.aload_n 0, 1) := by decide +kernel
theorem dX5_undo_1 : decode cX5_undo 1 = .ok (.getfield 41, 3) := by decide +kernel
theorem dX5_undo_4 : decode cX5_undo 4 = .ok (.ifCond .ne 9, 3) := by decide +kernel
theorem dX5_undo_7 : decode cX5_undo 7 = .ok (.aload_n 0, 1) := by decide +kernel
theorem dX5_undo_8 : decode cX5_undo 8 = .ok (.iconst 1, 1) := by decide +kernel
theorem dX5_undo_9 : decode cX5_undo 9 = .ok (.invokevirtual 44, 3) := by decide +kernel
theorem dX5_undo_12 : decode cX5_undo 12 = .ok (.ireturn, 1) := by decide +kernel
theorem dX5_undo_13 : decode cX5_undo 13 = .ok (.aload_n 0, 1) := by decide +kernel
theorem dX5_undo_14 : decode cX5_undo 14 = .ok (.dup, 1) := by decide +kernel
theorem dX5_undo_15 : decode cX5_undo 15 = .ok (.getfield 41, 3) := by decide +kernel
theorem dX5_undo_18 : decode cX5_undo 18 = .ok (.iconst 1, 1) := by decide +kernel
theorem dX5_undo_19 : decode cX5_undo 19 = .ok (.isub, 1) := by decide +kernel
theorem dX5_undo_20 : decode cX5_undo 20 = .ok (.putfield 41, 3) := by decide +kernel
theorem dX5_undo_23 : decode cX5_undo 23 = .ok (.iconst 0, 1) := by decide +kernel
theorem dX5_undo_24 : decode cX5_undo 24 = .ok (.istore_n 1, 1) := by decide +kernel
theorem dX5_undo_25 : decode cX5_undo 25 = .ok (.iload_n 1, 1) := by decide +kernel
theorem dX5_undo_26 : decode cX5_undo 26 = .ok (.sipush 206, 3) := by decide +kernel
theorem dX5_undo_29 : decode cX5_undo 29 = .ok (.if_icmp .ge 30, 3) := by decide +kernel
theorem dX5_undo_32 : decode cX5_undo 32 = .ok (.aload_n 0, 1) := by decide +kernel
theorem dX5_undo_33 : decode cX5_undo 33 = .ok (.getfield 7, 3) := by decide +kernel
theorem dX5_undo_36 : decode cX5_undo 36 = .ok (.iload_n 1, 1) := by decide +kernel
theorem dX5_undo_37 : decode cX5_undo 37 = .ok (.aload_n 0, 1) := by decide +kernel
theorem dX5_undo_38 : decode cX5_undo 38 = .ok (.getfield 13, 3) := by decide +kernel
theorem dX5_undo_41 : decode cX5_undo 41 = .ok (.sipush 206, 3) := by decide +kernel
theorem dX5_undo_44 : decode cX5_undo 44 = .ok (.aload_n 0, 1) := by decide +kernel
theorem dX5_undo_45 : decode cX5_undo 45 = .ok (.getfield 41, 3) := by decide +kernel
theorem dX5_undo_48 : decode cX5_undo 48 = .ok (.imul, 1) := by decide +kernel
theorem dX5_undo_49 : decode cX5_undo 49 = .ok (.iload_n 1, 1) := by decide +kernel
theorem dX5_undo_50 : decode cX5_undo 50 = .ok (.iadd, 1) := by decide +kernel
theorem dX5_undo_51 : decode cX5_undo 51 = .ok (.iaload, 1) := by decide +kernel
theorem dX5_undo_52 : decode cX5_undo 52 = .ok (.iastore, 1) := by decide +kernel
theorem dX5_undo_53 : decode cX5_undo 53 = .ok (.iinc 1 1, 3) := by decide +kernel
theorem dX5_undo_56 : decode cX5_undo 56 = .ok (.goto (-31), 3) := by decide +kernel
theorem dX5_undo_59 : decode cX5_undo 59 = .ok (.aload_n 0, 1) := by decide +kernel
theorem dX5_undo_60 : decode cX5_undo 60 = .ok (.aload_n 0, 1) := by decide +kernel
theorem dX5_undo_61 : decode cX5_undo 61 = .ok (.getfield 41, 3) := by decide +kernel
theorem dX5_undo_64 : decode cX5_undo 64 = .ok (.invokevirtual 54, 3) := by decide +kernel
theorem dX5_undo_67 : decode cX5_undo 67 = .ok (.ireturn, 1) := by decide +kernel
theorem dX5_does_0 : decode cX5_does 0 = .ok (.iload_n 2, 1) := by decide +kernel
theorem dX5_does_1 : decode cX5_does 1 = .ok (.aload_n 0, 1) := by decide +kernel
theorem dX5_does_2 : decode cX5_does 2 = .ok (.iload_n 3, 1) := by decide +kernel
theorem dX5_does_3 : decode cX5_does 3 = .ok (.iconst 1, 1) := by decide +kernel
theorem dX5_does_4 : decode cX5_does 4 = .ok (.invokevirtual 37, 3) := by decide +kernel
theorem dX5_does_7 : decode cX5_does 7 = .ok (.iadd, 1) := by decide +kernel
theorem dX5_does_8 : decode cX5_does 8 = .ok (.istore 4, 2) := by decide +kernel
theorem dX5_does_10 : decode cX5_does 10 = .ok (.iload_n 2, 1) := by decide +kernel
theorem dX5_does_11 : decode cX5_does 11 = .ok (.aload_n 0, 1) := by decide +kernel
theorem dX5_does_12 : decode cX5_does 12 = .ok (.iload_n 3, 1) := by decide +kernel
theorem dX5_does_13 : decode cX5_does 13 = .ok (.iconst 2, 1) := by decide +kernel
theorem dX5_does_14 : decode cX5_does 14 = .ok (.invokevirtual 37, 3) := by decide +kernel
theorem dX5_does_17 : decode cX5_does 17 = .ok (.iadd, 1) := by decide +kernel
theorem dX5_does_18 : decode cX5_does 18 = .ok (.istore 5, 2) := by decide +kernel
theorem dX5_does_20 : decode cX5_does 20 = .ok (.aload_n 0, 1) := by decide +kernel
theorem dX5_does_21 : decode cX5_does 21 = .ok (.iload_n 3, 1) := by decide +kernel
theorem dX5_does_22 : decode cX5_does 22 = .ok (.iconst 3, 1) := by decide +kernel
theorem dX5_does_23 : decode cX5_does 23 = .ok (.invokevirtual 37, 3) := by decide +kernel
theorem dX5_does_26 : decode cX5_does 26 = .ok (.istore 6, 2) := by decide +kernel
theorem dX5_does_28 : decode cX5_does 28 = .ok (.aload_n 1, 1) := by decide +kernel
theorem dX5_does_29 : decode cX5_does 29 = .ok (.iload 4, 2) := by decide +kernel
theorem dX5_does_31 : decode cX5_does 31 = .ok (.iaload, 1) := by decide +kernel
theorem dX5_does_32 : decode cX5_does 32 = .ok (.istore 7, 2) := by decide +kernel
theorem dX5_does_34 : decode cX5_does 34 = .ok (.aload_n 1, 1) := by decide +kernel
theorem dX5_does_35 : decode cX5_does 35 = .ok (.iload 5, 2) := by decide +kernel
theorem dX5_does_37 : decode cX5_does 37 = .ok (.iaload, 1) := by decide +kernel
theorem dX5_does_38 : decode cX5_does 38 = .ok (.istore 8, 2) := by decide +kernel
theorem dX5_does_40 : decode cX5_does 40 = .ok (.aload_n 0, 1) := by decide +kernel
theorem dX5_does_41 : decode cX5_does 41 = .ok (.iload_n 3, 1) := by decide +kernel
theorem dX5_does_42 : decode cX5_does 42 = .ok (.iconst 0, 1) := by decide +kernel
theorem dX5_does_43 : decode cX5_does 43 = .ok (.invokevirtual 37, 3) := by decide +kernel
theorem dX5_does_46 : decode cX5_does 46 = .ok (.tableswitch 150 0 3 #[30, 57, 78, 137], 30) := by decide +kernel
theorem dX5_does_76 : decode cX5_does 76 = .ok (.aload_n 1, 1) := by decide +kernel
theorem dX5_does_77 : decode cX5_does 77 = .ok (.iload 4, 2) := by decide +kernel
theorem dX5_does_79 : decode cX5_does 79 = .ok (.iload 7, 2) := by decide +kernel
theorem dX5_does_81 : decode cX5_does 81 = .ok (.iload 6, 2) := by decide +kernel
theorem dX5_does_83 : decode cX5_does 83 = .ok (.iadd, 1) := by decide +kernel
theorem dX5_does_84 : decode cX5_does 84 = .ok (.sipush 999, 3) := by decide +kernel
theorem dX5_does_87 : decode cX5_does 87 = .ok (.if_icmp .le 9, 3) := by decide +kernel
theorem dX5_does_90 : decode cX5_does 90 = .ok (.sipush 999, 3) := by decide +kernel
theorem dX5_does_93 : decode cX5_does 93 = .ok (.goto 8, 3) := by decide +kernel
theorem dX5_does_96 : decode cX5_does 96 = .ok (.iload 7, 2) := by decide +kernel
theorem dX5_does_98 : decode cX5_does 98 = .ok (.iload 6, 2) := by decide +kernel
theorem dX5_does_100 : decode cX5_does 100 = .ok (.iadd, 1) := by decide +kernel
theorem dX5_does_101 : decode cX5_does 101 = .ok (.iastore, 1) := by decide +kernel
theorem dX5_does_102 : decode cX5_does 102 = .ok (.return_, 1) := by decide +kernel
theorem dX5_does_103 : decode cX5_does 103 = .ok (.aload_n 1, 1) := by decide +kernel
theorem dX5_does_104 : decode cX5_does 104 = .ok (.iload 4, 2) := by decide +kernel
theorem dX5_does_106 : decode cX5_does 106 = .ok (.iload 7, 2) := by decide +kernel
theorem dX5_does_108 : decode cX5_does 108 = .ok (.iload 6, 2) := by decide +kernel
theorem dX5_does_110 : decode cX5_does 110 = .ok (.if_icmp .ge 7, 3) := by decide +kernel
theorem dX5_does_113 : decode cX5_does 113 = .ok (.iconst 0, 1) := by decide +kernel
theorem dX5_does_114 : decode cX5_does 114 = .ok (.goto 8, 3) := by decide +kernel
theorem dX5_does_117 : decode cX5_does 117 = .ok (.iload 7, 2) := by decide +kernel
theorem dX5_does_119 : decode cX5_does 119 = .ok (.iload 6, 2) := by decide +kernel
theorem dX5_does_121 : decode cX5_does 121 = .ok (.isub, 1) := by decide +kernel
theorem dX5_does_122 : decode cX5_does 122 = .ok (.iastore, 1) := by decide +kernel
theorem dX5_does_123 : decode cX5_does 123 = .ok (.return_, 1) := by decide +kernel
theorem dX5_does_124 : decode cX5_does 124 = .ok (.iload 7, 2) := by decide +kernel
theorem dX5_does_126 : decode cX5_does 126 = .ok (.iload 6, 2) := by decide +kernel
theorem dX5_does_128 : decode cX5_does 128 = .ok (.if_icmp .ge 8, 3) := by decide +kernel
theorem dX5_does_131 : decode cX5_does 131 = .ok (.iload 7, 2) := by decide +kernel
theorem dX5_does_133 : decode cX5_does 133 = .ok (.goto 5, 3) := by decide +kernel
theorem dX5_does_136 : decode cX5_does 136 = .ok (.iload 6, 2) := by decide +kernel
theorem dX5_does_138 : decode cX5_does 138 = .ok (.istore 6, 2) := by decide +kernel
theorem dX5_does_140 : decode cX5_does 140 = .ok (.sipush 999, 3) := by decide +kernel
theorem dX5_does_143 : decode cX5_does 143 = .ok (.iload 8, 2) := by decide +kernel
theorem dX5_does_145 : decode cX5_does 145 = .ok (.isub, 1) := by decide +kernel
theorem dX5_does_146 : decode cX5_does 146 = .ok (.iload 6, 2) := by decide +kernel
theorem dX5_does_148 : decode cX5_does 148 = .ok (.if_icmp .ge 12, 3) := by decide +kernel
theorem dX5_does_151 : decode cX5_does 151 = .ok (.sipush 999, 3) := by decide +kernel
theorem dX5_does_154 : decode cX5_does 154 = .ok (.iload 8, 2) := by decide +kernel
theorem dX5_does_156 : decode cX5_does 156 = .ok (.isub, 1) := by decide +kernel
theorem dX5_does_157 : decode cX5_does 157 = .ok (.goto 5, 3) := by decide +kernel
theorem dX5_does_160 : decode cX5_does 160 = .ok (.iload 6, 2) := by decide +kernel
theorem dX5_does_162 : decode cX5_does 162 = .ok (.istore 6, 2) := by decide +kernel
theorem dX5_does_164 : decode cX5_does 164 = .ok (.aload_n 1, 1) := by decide +kernel
theorem dX5_does_165 : decode cX5_does 165 = .ok (.iload 4, 2) := by decide +kernel
theorem dX5_does_167 : decode cX5_does 167 = .ok (.iload 7, 2) := by decide +kernel
theorem dX5_does_169 : decode cX5_does 169 = .ok (.iload 6, 2) := by decide +kernel
theorem dX5_does_171 : decode cX5_does 171 = .ok (.isub, 1) := by decide +kernel
theorem dX5_does_172 : decode cX5_does 172 = .ok (.iastore, 1) := by decide +kernel
theorem dX5_does_173 : decode cX5_does 173 = .ok (.aload_n 1, 1) := by decide +kernel
theorem dX5_does_174 : decode cX5_does 174 = .ok (.iload 5, 2) := by decide +kernel
theorem dX5_does_176 : decode cX5_does 176 = .ok (.iload 8, 2) := by decide +kernel
theorem dX5_does_178 : decode cX5_does 178 = .ok (.iload 6, 2) := by decide +kernel
theorem dX5_does_180 : decode cX5_does 180 = .ok (.iadd, 1) := by decide +kernel
theorem dX5_does_181 : decode cX5_does 181 = .ok (.iastore, 1) := by decide +kernel
theorem dX5_does_182 : decode cX5_does 182 = .ok (.return_, 1) := by decide +kernel
theorem dX5_does_183 : decode cX5_does 183 = .ok (.aload_n 1, 1) := by decide +kernel
theorem dX5_does_184 : decode cX5_does 184 = .ok (.iload 4, 2) := by decide +kernel
theorem dX5_does_186 : decode cX5_does 186 = .ok (.iload 8, 2) := by decide +kernel
theorem dX5_does_188 : decode cX5_does 188 = .ok (.iastore, 1) := by decide +kernel
theorem dX5_does_189 : decode cX5_does 189 = .ok (.aload_n 1, 1) := by decide +kernel
theorem dX5_does_190 : decode cX5_does 190 = .ok (.iload 5, 2) := by decide +kernel
theorem dX5_does_192 : decode cX5_does 192 = .ok (.iload 7, 2) := by decide +kernel
theorem dX5_does_194 : decode cX5_does 194 = .ok (.iastore, 1) := by decide +kernel
theorem dX5_does_195 : decode cX5_does 195 = .ok (.return_, 1) := by decide +kernel
theorem dX5_does_196 : decode cX5_does 196 = .ok (.aload_n 1, 1) := by decide +kernel
theorem dX5_does_197 : decode cX5_does 197 = .ok (.iload 5, 2) := by decide +kernel
theorem dX5_does_199 : decode cX5_does 199 = .ok (.iload 7, 2) := by decide +kernel
theorem dX5_does_201 : decode cX5_does 201 = .ok (.iload 8, 2) := by decide +kernel
theorem dX5_does_203 : decode cX5_does 203 = .ok (.iadd, 1) := by decide +kernel
theorem dX5_does_204 : decode cX5_does 204 = .ok (.iconst 2, 1) := by decide +kernel
theorem dX5_does_205 : decode cX5_does 205 = .ok (.idiv, 1) := by decide +kernel
theorem dX5_does_206 : decode cX5_does 206 = .ok (.iastore, 1) := by decide +kernel
theorem dX5_does_207 : decode cX5_does 207 = .ok (.aload_n 1, 1) := by decide +kernel
theorem dX5_does_208 : decode cX5_does 208 = .ok (.iload 4, 2) := by decide +kernel
theorem dX5_does_210 : decode cX5_does 210 = .ok (.iload 7, 2) := by decide +kernel
theorem dX5_does_212 : decode cX5_does 212 = .ok (.iload 8, 2) := by decide +kernel
theorem dX5_does_214 : decode cX5_does 214 = .ok (.iadd, 1) := by decide +kernel
theorem dX5_does_215 : decode cX5_does 215 = .ok (.aload_n 1, 1) := by decide +kernel
theorem dX5_does_216 : decode cX5_does 216 = .ok (.iload 5, 2) := by decide +kernel
theorem dX5_does_218 : decode cX5_does 218 = .ok (.iaload, 1) := by decide +kernel
theorem dX5_does_219 : decode cX5_does 219 = .ok (.isub, 1) := by decide +kernel
theorem dX5_does_220 : decode cX5_does 220 = .ok (.iastore, 1) := by decide +kernel
theorem dX5_does_221 : decode cX5_does 221 = .ok (.return_, 1) := by decide +kernel
theorem dX5_stopOf_0 : decode cX5_stopOf 0 = .ok (.aload_n 0, 1) := by decide +kernel
theorem dX5_stopOf_1 : decode cX5_stopOf 1 = .ok (.iload_n 1, 1) := by decide +kernel
theorem dX5_stopOf_2 : decode cX5_stopOf 2 = .ok (.iconst 0, 1) := by decide +kernel
theorem dX5_stopOf_3 : decode cX5_stopOf 3 = .ok (.invokevirtual 57, 3) := by decide +kernel
theorem dX5_stopOf_6 : decode cX5_stopOf 6 = .ok (.istore_n 2, 1) := by decide +kernel
theorem dX5_stopOf_7 : decode cX5_stopOf 7 = .ok (.iload_n 2, 1) := by decide +kernel
theorem dX5_stopOf_8 : decode cX5_stopOf 8 = .ok (.aload_n 0, 1) := by decide +kernel
theorem dX5_stopOf_9 : decode cX5_stopOf 9 = .ok (.getfield 7, 3) := by decide +kernel
theorem dX5_stopOf_12 : decode cX5_stopOf 12 = .ok (.iconst 2, 1) := by decide +kernel
theorem dX5_stopOf_13 : decode cX5_stopOf 13 = .ok (.iaload, 1) := by decide +kernel
theorem dX5_stopOf_14 : decode cX5_stopOf 14 = .ok (.if_icmp .ge 17, 3) := by decide +kernel
theorem dX5_stopOf_17 : decode cX5_stopOf 17 = .ok (.aload_n 0, 1) := by decide +kernel
theorem dX5_stopOf_18 : decode cX5_stopOf 18 = .ok (.iload_n 2, 1) := by decide +kernel
theorem dX5_stopOf_19 : decode cX5_stopOf 19 = .ok (.invokevirtual 60, 3) := by decide +kernel
theorem dX5_stopOf_22 : decode cX5_stopOf 22 = .ok (.ifCond .eq 9, 3) := by decide +kernel
theorem dX5_stopOf_25 : decode cX5_stopOf 25 = .ok (.iinc 2 1, 3) := by decide +kernel
theorem dX5_stopOf_28 : decode cX5_stopOf 28 = .ok (.goto (-21), 3) := by decide +kernel
theorem dX5_stopOf_31 : decode cX5_stopOf 31 = .ok (.iload_n 2, 1) := by decide +kernel
theorem dX5_stopOf_32 : decode cX5_stopOf 32 = .ok (.ireturn, 1) := by decide +kernel
theorem dX5_couldReplay_0 : decode cX5_couldReplay 0 = .ok (.aload_n 0, 1) := by decide +kernel
theorem dX5_couldReplay_1 : decode cX5_couldReplay 1 = .ok (.iload_n 1, 1) := by decide +kernel
theorem dX5_couldReplay_2 : decode cX5_couldReplay 2 = .ok (.iconst 1, 1) := by decide +kernel
theorem dX5_couldReplay_3 : decode cX5_couldReplay 3 = .ok (.invokevirtual 57, 3) := by decide +kernel
theorem dX5_couldReplay_6 : decode cX5_couldReplay 6 = .ok (.iconst 1, 1) := by decide +kernel
theorem dX5_couldReplay_7 : decode cX5_couldReplay 7 = .ok (.if_icmp .ne 18, 3) := by decide +kernel
theorem dX5_couldReplay_10 : decode cX5_couldReplay 10 = .ok (.aload_n 0, 1) := by decide +kernel
theorem dX5_couldReplay_11 : decode cX5_couldReplay 11 = .ok (.iload_n 1, 1) := by decide +kernel
theorem dX5_couldReplay_12 : decode cX5_couldReplay 12 = .ok (.invokevirtual 64, 3) := by decide +kernel
theorem dX5_couldReplay_15 : decode cX5_couldReplay 15 = .ok (.aload_n 0, 1) := by decide +kernel
theorem dX5_couldReplay_16 : decode cX5_couldReplay 16 = .ok (.iload_n 1, 1) := by decide +kernel
theorem dX5_couldReplay_17 : decode cX5_couldReplay 17 = .ok (.iconst 0, 1) := by decide +kernel
theorem dX5_couldReplay_18 : decode cX5_couldReplay 18 = .ok (.invokevirtual 57, 3) := by decide +kernel
theorem dX5_couldReplay_21 : decode cX5_couldReplay 21 = .ok (.isub, 1) := by decide +kernel
theorem dX5_couldReplay_22 : decode cX5_couldReplay 22 = .ok (.goto 4, 3) := by decide +kernel
theorem dX5_couldReplay_25 : decode cX5_couldReplay 25 = .ok (.iconst 0, 1) := by decide +kernel
theorem dX5_couldReplay_26 : decode cX5_couldReplay 26 = .ok (.ireturn, 1) := by decide +kernel
theorem dX5_leastSnapshot_0 : decode cX5_leastSnapshot 0 = .ok (.aload_n 0, 1) := by decide +kernel
theorem dX5_leastSnapshot_1 : decode cX5_leastSnapshot 1 = .ok (.iconst 0, 1) := by decide +kernel
theorem dX5_leastSnapshot_2 : decode cX5_leastSnapshot 2 = .ok (.iconst 4, 1) := by decide +kernel
theorem dX5_leastSnapshot_3 : decode cX5_leastSnapshot 3 = .ok (.invokevirtual 57, 3) := by decide +kernel
theorem dX5_leastSnapshot_6 : decode cX5_leastSnapshot 6 = .ok (.aload_n 0, 1) := by decide +kernel
theorem dX5_leastSnapshot_7 : decode cX5_leastSnapshot 7 = .ok (.iconst 1, 1) := by decide +kernel
theorem dX5_leastSnapshot_8 : decode cX5_leastSnapshot 8 = .ok (.iconst 4, 1) := by decide +kernel
theorem dX5_leastSnapshot_9 : decode cX5_leastSnapshot 9 = .ok (.invokevirtual 57, 3) := by decide +kernel
theorem dX5_leastSnapshot_12 : decode cX5_leastSnapshot 12 = .ok (.if_icmp .ge 12, 3) := by decide +kernel
theorem dX5_leastSnapshot_15 : decode cX5_leastSnapshot 15 = .ok (.aload_n 0, 1) := by decide +kernel
theorem dX5_leastSnapshot_16 : decode cX5_leastSnapshot 16 = .ok (.iconst 0, 1) := by decide +kernel
theorem dX5_leastSnapshot_17 : decode cX5_leastSnapshot 17 = .ok (.iconst 4, 1) := by decide +kernel
theorem dX5_leastSnapshot_18 : decode cX5_leastSnapshot 18 = .ok (.invokevirtual 57, 3) := by decide +kernel
theorem dX5_leastSnapshot_21 : decode cX5_leastSnapshot 21 = .ok (.goto 9, 3) := by decide +kernel
theorem dX5_leastSnapshot_24 : decode cX5_leastSnapshot 24 = .ok (.aload_n 0, 1) := by decide +kernel
theorem dX5_leastSnapshot_25 : decode cX5_leastSnapshot 25 = .ok (.iconst 1, 1) := by decide +kernel
theorem dX5_leastSnapshot_26 : decode cX5_leastSnapshot 26 = .ok (.iconst 4, 1) := by decide +kernel
theorem dX5_leastSnapshot_27 : decode cX5_leastSnapshot 27 = .ok (.invokevirtual 57, 3) := by decide +kernel
theorem dX5_leastSnapshot_30 : decode cX5_leastSnapshot 30 = .ok (.ireturn, 1) := by decide +kernel
