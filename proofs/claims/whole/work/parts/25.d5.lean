/-! what stands at each place of the code, printed -/
theorem dL_tonsAt_0 : decode cL_tonsAt 0 = .ok (.aload_n 3, 1) := by decide +kernel
theorem dL_tonsAt_1 : decode cL_tonsAt 1 = .ok (.iconst 0, 1) := by decide +kernel
theorem dL_tonsAt_2 : decode cL_tonsAt 2 = .ok (.aload_n 0, 1) := by decide +kernel
theorem dL_tonsAt_3 : decode cL_tonsAt 3 = .ok (.iload_n 1, 1) := by decide +kernel
theorem dL_tonsAt_4 : decode cL_tonsAt 4 = .ok (.iload_n 2, 1) := by decide +kernel
theorem dL_tonsAt_5 : decode cL_tonsAt 5 = .ok (.invokevirtual 58, 3) := by decide +kernel
theorem dL_tonsAt_8 : decode cL_tonsAt 8 = .ok (.i2l, 1) := by decide +kernel
theorem dL_tonsAt_9 : decode cL_tonsAt 9 = .ok (.lastore, 1) := by decide +kernel
theorem dL_tonsAt_10 : decode cL_tonsAt 10 = .ok (.goto 7, 3) := by decide +kernel
theorem dL_tonsAt_13 : decode cL_tonsAt 13 = .ok (.astore 4, 2) := by decide +kernel
theorem dL_tonsAt_15 : decode cL_tonsAt 15 = .ok (.iconst 1, 1) := by decide +kernel
theorem dL_tonsAt_16 : decode cL_tonsAt 16 = .ok (.ireturn, 1) := by decide +kernel
theorem dL_tonsAt_17 : decode cL_tonsAt 17 = .ok (.iconst 0, 1) := by decide +kernel
theorem dL_tonsAt_18 : decode cL_tonsAt 18 = .ok (.ireturn, 1) := by decide +kernel
theorem dL_roomBy_0 : decode cL_roomBy 0 = .ok (.aload_n 2, 1) := by decide +kernel
theorem dL_roomBy_1 : decode cL_roomBy 1 = .ok (.iconst 0, 1) := by decide +kernel
theorem dL_roomBy_2 : decode cL_roomBy 2 = .ok (.aload_n 0, 1) := by decide +kernel
theorem dL_roomBy_3 : decode cL_roomBy 3 = .ok (.iload_n 1, 1) := by decide +kernel
theorem dL_roomBy_4 : decode cL_roomBy 4 = .ok (.invokevirtual 61, 3) := by decide +kernel
theorem dL_roomBy_7 : decode cL_roomBy 7 = .ok (.i2l, 1) := by decide +kernel
theorem dL_roomBy_8 : decode cL_roomBy 8 = .ok (.lastore, 1) := by decide +kernel
theorem dL_roomBy_9 : decode cL_roomBy 9 = .ok (.goto 6, 3) := by decide +kernel
theorem dL_roomBy_12 : decode cL_roomBy 12 = .ok (.astore_n 3, 1) := by decide +kernel
theorem dL_roomBy_13 : decode cL_roomBy 13 = .ok (.iconst 1, 1) := by decide +kernel
theorem dL_roomBy_14 : decode cL_roomBy 14 = .ok (.ireturn, 1) := by decide +kernel
theorem dL_roomBy_15 : decode cL_roomBy 15 = .ok (.iconst 0, 1) := by decide +kernel
theorem dL_roomBy_16 : decode cL_roomBy 16 = .ok (.ireturn, 1) := by decide +kernel
theorem dL_append_0 : decode cL_append 0 = .ok (.aload_n 2, 1) := by decide +kernel
theorem dL_append_1 : decode cL_append 1 = .ok (.iconst 0, 1) := by decide +kernel
theorem dL_append_2 : decode cL_append 2 = .ok (.aload_n 0, 1) := by decide +kernel
theorem dL_append_3 : decode cL_append 3 = .ok (.iload_n 1, 1) := by decide +kernel
theorem dL_append_4 : decode cL_append 4 = .ok (.invokevirtual 64, 3) := by decide +kernel
theorem dL_append_7 : decode cL_append 7 = .ok (.i2l, 1) := by decide +kernel
theorem dL_append_8 : decode cL_append 8 = .ok (.lastore, 1) := by decide +kernel
theorem dL_append_9 : decode cL_append 9 = .ok (.goto 9, 3) := by decide +kernel
theorem dL_append_12 : decode cL_append 12 = .ok (.astore_n 3, 1) := by decide +kernel
theorem dL_append_13 : decode cL_append 13 = .ok (.iconst 1, 1) := by decide +kernel
theorem dL_append_14 : decode cL_append 14 = .ok (.ireturn, 1) := by decide +kernel
theorem dL_append_15 : decode cL_append 15 = .ok (.astore_n 3, 1) := by decide +kernel
theorem dL_append_16 : decode cL_append 16 = .ok (.iconst 2, 1) := by decide +kernel
theorem dL_append_17 : decode cL_append 17 = .ok (.ireturn, 1) := by decide +kernel
theorem dL_append_18 : decode cL_append 18 = .ok (.iconst 0, 1) := by decide +kernel
theorem dL_append_19 : decode cL_append 19 = .ok (.ireturn, 1) := by decide +kernel
theorem dL_undo_0 : decode cL_undo 0 = .ok (.aload_n 1, 1) := by decide +kernel
theorem dL_undo_1 : decode cL_undo 1 = .ok (.iconst 0, 1) := by decide +kernel
theorem dL_undo_2 : decode cL_undo 2 = .ok (.aload_n 0, 1) := by decide +kernel
theorem dL_undo_3 : decode cL_undo 3 = .ok (.invokevirtual 67, 3) := by decide +kernel
theorem dL_undo_6 : decode cL_undo 6 = .ok (.i2l, 1) := by decide +kernel
theorem dL_undo_7 : decode cL_undo 7 = .ok (.lastore, 1) := by decide +kernel
theorem dL_undo_8 : decode cL_undo 8 = .ok (.goto 6, 3) := by decide +kernel
theorem dL_undo_11 : decode cL_undo 11 = .ok (.astore_n 2, 1) := by decide +kernel
theorem dL_undo_12 : decode cL_undo 12 = .ok (.iconst 1, 1) := by decide +kernel
theorem dL_undo_13 : decode cL_undo 13 = .ok (.ireturn, 1) := by decide +kernel
theorem dL_undo_14 : decode cL_undo 14 = .ok (.iconst 0, 1) := by decide +kernel
theorem dL_undo_15 : decode cL_undo 15 = .ok (.ireturn, 1) := by decide +kernel
