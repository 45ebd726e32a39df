/-! what stands at each place of the code, printed -/
theorem dX5_writes_0 : decode cX5_writes 0 = .ok (.iload_n 1, 1) := by decide +kernel
theorem dX5_writes_1 : decode cX5_writes 1 = .ok (.iconst 0, 1) := by decide +kernel
theorem dX5_writes_2 : decode cX5_writes 2 = .ok (.iconst 4, 1) := by decide +kernel
theorem dX5_writes_3 : decode cX5_writes 3 = .ok (.invokestatic 33, 3) := by decide +kernel
theorem dX5_writes_6 : decode cX5_writes 6 = .ok (.ifCond .eq 44, 3) := by decide +kernel
theorem dX5_writes_9 : decode cX5_writes 9 = .ok (.iload_n 2, 1) := by decide +kernel
theorem dX5_writes_10 : decode cX5_writes 10 = .ok (.iconst 0, 1) := by decide +kernel
theorem dX5_writes_11 : decode cX5_writes 11 = .ok (.bipush 7, 2) := by decide +kernel
theorem dX5_writes_13 : decode cX5_writes 13 = .ok (.invokestatic 33, 3) := by decide +kernel
theorem dX5_writes_16 : decode cX5_writes 16 = .ok (.ifCond .eq 34, 3) := by decide +kernel
theorem dX5_writes_19 : decode cX5_writes 19 = .ok (.iload_n 3, 1) := by decide +kernel
theorem dX5_writes_20 : decode cX5_writes 20 = .ok (.iconst 0, 1) := by decide +kernel
theorem dX5_writes_21 : decode cX5_writes 21 = .ok (.bipush 7, 2) := by decide +kernel
theorem dX5_writes_23 : decode cX5_writes 23 = .ok (.invokestatic 33, 3) := by decide +kernel
theorem dX5_writes_26 : decode cX5_writes 26 = .ok (.ifCond .eq 24, 3) := by decide +kernel
theorem dX5_writes_29 : decode cX5_writes 29 = .ok (.iload 4, 2) := by decide +kernel
theorem dX5_writes_31 : decode cX5_writes 31 = .ok (.iconst 1, 1) := by decide +kernel
theorem dX5_writes_32 : decode cX5_writes 32 = .ok (.bipush 99, 2) := by decide +kernel
theorem dX5_writes_34 : decode cX5_writes 34 = .ok (.invokestatic 33, 3) := by decide +kernel
theorem dX5_writes_37 : decode cX5_writes 37 = .ok (.ifCond .eq 13, 3) := by decide +kernel
theorem dX5_writes_40 : decode cX5_writes 40 = .ok (.iload_n 1, 1) := by decide +kernel
theorem dX5_writes_41 : decode cX5_writes 41 = .ok (.iconst 1, 1) := by decide +kernel
theorem dX5_writes_42 : decode cX5_writes 42 = .ok (.if_icmp .le 10, 3) := by decide +kernel
theorem dX5_writes_45 : decode cX5_writes 45 = .ok (.iload_n 2, 1) := by decide +kernel
theorem dX5_writes_46 : decode cX5_writes 46 = .ok (.iload_n 3, 1) := by decide +kernel
theorem dX5_writes_47 : decode cX5_writes 47 = .ok (.if_icmp .ne 5, 3) := by decide +kernel
theorem dX5_writes_50 : decode cX5_writes 50 = .ok (.iconst 1, 1) := by decide +kernel
theorem dX5_writes_51 : decode cX5_writes 51 = .ok (.ireturn, 1) := by decide +kernel
theorem dX5_writes_52 : decode cX5_writes 52 = .ok (.aload_n 0, 1) := by decide +kernel
theorem dX5_writes_53 : decode cX5_writes 53 = .ok (.invokevirtual 67, 3) := by decide +kernel
theorem dX5_writes_56 : decode cX5_writes 56 = .ok (.aload_n 0, 1) := by decide +kernel
theorem dX5_writes_57 : decode cX5_writes 57 = .ok (.getfield 7, 3) := by decide +kernel
theorem dX5_writes_60 : decode cX5_writes 60 = .ok (.iconst 0, 1) := by decide +kernel
theorem dX5_writes_61 : decode cX5_writes 61 = .ok (.iaload, 1) := by decide +kernel
theorem dX5_writes_62 : decode cX5_writes 62 = .ok (.if_icmp .ne 5, 3) := by decide +kernel
theorem dX5_writes_65 : decode cX5_writes 65 = .ok (.iconst 2, 1) := by decide +kernel
theorem dX5_writes_66 : decode cX5_writes 66 = .ok (.ireturn, 1) := by decide +kernel
theorem dX5_writes_67 : decode cX5_writes 67 = .ok (.aload_n 0, 1) := by decide +kernel
theorem dX5_writes_68 : decode cX5_writes 68 = .ok (.aload_n 0, 1) := by decide +kernel
theorem dX5_writes_69 : decode cX5_writes 69 = .ok (.getfield 7, 3) := by decide +kernel
theorem dX5_writes_72 : decode cX5_writes 72 = .ok (.iconst 2, 1) := by decide +kernel
theorem dX5_writes_73 : decode cX5_writes 73 = .ok (.iaload, 1) := by decide +kernel
theorem dX5_writes_74 : decode cX5_writes 74 = .ok (.putfield 51, 3) := by decide +kernel
theorem dX5_writes_77 : decode cX5_writes 77 = .ok (.aload_n 0, 1) := by decide +kernel
theorem dX5_writes_78 : decode cX5_writes 78 = .ok (.aload_n 0, 1) := by decide +kernel
theorem dX5_writes_79 : decode cX5_writes 79 = .ok (.getfield 51, 3) := by decide +kernel
theorem dX5_writes_82 : decode cX5_writes 82 = .ok (.iconst 0, 1) := by decide +kernel
theorem dX5_writes_83 : decode cX5_writes 83 = .ok (.iload_n 1, 1) := by decide +kernel
theorem dX5_writes_84 : decode cX5_writes 84 = .ok (.invokevirtual 71, 3) := by decide +kernel
theorem dX5_writes_87 : decode cX5_writes 87 = .ok (.aload_n 0, 1) := by decide +kernel
theorem dX5_writes_88 : decode cX5_writes 88 = .ok (.aload_n 0, 1) := by decide +kernel
theorem dX5_writes_89 : decode cX5_writes 89 = .ok (.getfield 51, 3) := by decide +kernel
theorem dX5_writes_92 : decode cX5_writes 92 = .ok (.iconst 1, 1) := by decide +kernel
theorem dX5_writes_93 : decode cX5_writes 93 = .ok (.iload_n 2, 1) := by decide +kernel
theorem dX5_writes_94 : decode cX5_writes 94 = .ok (.invokevirtual 71, 3) := by decide +kernel
theorem dX5_writes_97 : decode cX5_writes 97 = .ok (.aload_n 0, 1) := by decide +kernel
theorem dX5_writes_98 : decode cX5_writes 98 = .ok (.aload_n 0, 1) := by decide +kernel
theorem dX5_writes_99 : decode cX5_writes 99 = .ok (.getfield 51, 3) := by decide +kernel
theorem dX5_writes_102 : decode cX5_writes 102 = .ok (.iconst 2, 1) := by decide +kernel
theorem dX5_writes_103 : decode cX5_writes 103 = .ok (.iload_n 1, 1) := by decide +kernel
theorem dX5_writes_104 : decode cX5_writes 104 = .ok (.iconst 2, 1) := by decide +kernel
theorem dX5_writes_105 : decode cX5_writes 105 = .ok (.if_icmp .ge 7, 3) := by decide +kernel
theorem dX5_writes_108 : decode cX5_writes 108 = .ok (.iconst 0, 1) := by decide +kernel
theorem dX5_writes_109 : decode cX5_writes 109 = .ok (.goto 4, 3) := by decide +kernel
theorem dX5_writes_112 : decode cX5_writes 112 = .ok (.iload_n 3, 1) := by decide +kernel
theorem dX5_writes_113 : decode cX5_writes 113 = .ok (.invokevirtual 71, 3) := by decide +kernel
theorem dX5_writes_116 : decode cX5_writes 116 = .ok (.aload_n 0, 1) := by decide +kernel
theorem dX5_writes_117 : decode cX5_writes 117 = .ok (.aload_n 0, 1) := by decide +kernel
theorem dX5_writes_118 : decode cX5_writes 118 = .ok (.getfield 51, 3) := by decide +kernel
theorem dX5_writes_121 : decode cX5_writes 121 = .ok (.iconst 3, 1) := by decide +kernel
theorem dX5_writes_122 : decode cX5_writes 122 = .ok (.iload 4, 2) := by decide +kernel
theorem dX5_writes_124 : decode cX5_writes 124 = .ok (.invokevirtual 71, 3) := by decide +kernel
theorem dX5_writes_127 : decode cX5_writes 127 = .ok (.aload_n 0, 1) := by decide +kernel
theorem dX5_writes_128 : decode cX5_writes 128 = .ok (.aload_n 0, 1) := by decide +kernel
theorem dX5_writes_129 : decode cX5_writes 129 = .ok (.getfield 51, 3) := by decide +kernel
theorem dX5_writes_132 : decode cX5_writes 132 = .ok (.iconst 4, 1) := by decide +kernel
theorem dX5_writes_133 : decode cX5_writes 133 = .ok (.iconst 0, 1) := by decide +kernel
theorem dX5_writes_134 : decode cX5_writes 134 = .ok (.invokevirtual 71, 3) := by decide +kernel
theorem dX5_writes_137 : decode cX5_writes 137 = .ok (.aload_n 0, 1) := by decide +kernel
theorem dX5_writes_138 : decode cX5_writes 138 = .ok (.getfield 7, 3) := by decide +kernel
theorem dX5_writes_141 : decode cX5_writes 141 = .ok (.iconst 2, 1) := by decide +kernel
theorem dX5_writes_142 : decode cX5_writes 142 = .ok (.dup2, 1) := by decide +kernel
theorem dX5_writes_143 : decode cX5_writes 143 = .ok (.iaload, 1) := by decide +kernel
theorem dX5_writes_144 : decode cX5_writes 144 = .ok (.iconst 1, 1) := by decide +kernel
theorem dX5_writes_145 : decode cX5_writes 145 = .ok (.iadd, 1) := by decide +kernel
theorem dX5_writes_146 : decode cX5_writes 146 = .ok (.iastore, 1) := by decide +kernel
theorem dX5_writes_147 : decode cX5_writes 147 = .ok (.iconst 0, 1) := by decide +kernel
theorem dX5_writes_148 : decode cX5_writes 148 = .ok (.ireturn, 1) := by decide +kernel
theorem dX5_replays_0 : decode cX5_replays 0 = .ok (.iload_n 1, 1) := by decide +kernel
theorem dX5_replays_1 : decode cX5_replays 1 = .ok (.invokestatic 75, 3) := by decide +kernel
theorem dX5_replays_4 : decode cX5_replays 4 = .ok (.ifCond .ne 5, 3) := by decide +kernel
theorem dX5_replays_7 : decode cX5_replays 7 = .ok (.iconst 1, 1) := by decide +kernel
theorem dX5_replays_8 : decode cX5_replays 8 = .ok (.ireturn, 1) := by decide +kernel
theorem dX5_replays_9 : decode cX5_replays 9 = .ok (.iload_n 2, 1) := by decide +kernel
theorem dX5_replays_10 : decode cX5_replays 10 = .ok (.iconst 1, 1) := by decide +kernel
theorem dX5_replays_11 : decode cX5_replays 11 = .ok (.bipush 99, 2) := by decide +kernel
theorem dX5_replays_13 : decode cX5_replays 13 = .ok (.invokestatic 33, 3) := by decide +kernel
theorem dX5_replays_16 : decode cX5_replays 16 = .ok (.ifCond .ne 5, 3) := by decide +kernel
theorem dX5_replays_19 : decode cX5_replays 19 = .ok (.iconst 2, 1) := by decide +kernel
theorem dX5_replays_20 : decode cX5_replays 20 = .ok (.ireturn, 1) := by decide +kernel
theorem dX5_replays_21 : decode cX5_replays 21 = .ok (.aload_n 0, 1) := by decide +kernel
theorem dX5_replays_22 : decode cX5_replays 22 = .ok (.iload_n 1, 1) := by decide +kernel
theorem dX5_replays_23 : decode cX5_replays 23 = .ok (.invokevirtual 78, 3) := by decide +kernel
theorem dX5_replays_26 : decode cX5_replays 26 = .ok (.istore_n 3, 1) := by decide +kernel
theorem dX5_replays_27 : decode cX5_replays 27 = .ok (.aload_n 0, 1) := by decide +kernel
theorem dX5_replays_28 : decode cX5_replays 28 = .ok (.iload_n 3, 1) := by decide +kernel
theorem dX5_replays_29 : decode cX5_replays 29 = .ok (.iload_n 2, 1) := by decide +kernel
theorem dX5_replays_30 : decode cX5_replays 30 = .ok (.if_icmp .ge 7, 3) := by decide +kernel
theorem dX5_replays_33 : decode cX5_replays 33 = .ok (.iload_n 3, 1) := by decide +kernel
theorem dX5_replays_34 : decode cX5_replays 34 = .ok (.goto 4, 3) := by decide +kernel
theorem dX5_replays_37 : decode cX5_replays 37 = .ok (.iload_n 2, 1) := by decide +kernel
theorem dX5_replays_38 : decode cX5_replays 38 = .ok (.putfield 51, 3) := by decide +kernel
theorem dX5_replays_41 : decode cX5_replays 41 = .ok (.iconst 0, 1) := by decide +kernel
theorem dX5_replays_42 : decode cX5_replays 42 = .ok (.istore 4, 2) := by decide +kernel
theorem dX5_replays_44 : decode cX5_replays 44 = .ok (.iload 4, 2) := by decide +kernel
theorem dX5_replays_46 : decode cX5_replays 46 = .ok (.aload_n 0, 1) := by decide +kernel
theorem dX5_replays_47 : decode cX5_replays 47 = .ok (.getfield 51, 3) := by decide +kernel
theorem dX5_replays_50 : decode cX5_replays 50 = .ok (.if_icmp .ge 47, 3) := by decide +kernel
theorem dX5_replays_53 : decode cX5_replays 53 = .ok (.aload_n 0, 1) := by decide +kernel
theorem dX5_replays_54 : decode cX5_replays 54 = .ok (.aload_n 0, 1) := by decide +kernel
theorem dX5_replays_55 : decode cX5_replays 55 = .ok (.getfield 7, 3) := by decide +kernel
theorem dX5_replays_58 : decode cX5_replays 58 = .ok (.sipush 164, 3) := by decide +kernel
theorem dX5_replays_61 : decode cX5_replays 61 = .ok (.bipush 21, 2) := by decide +kernel
theorem dX5_replays_63 : decode cX5_replays 63 = .ok (.iload_n 1, 1) := by decide +kernel
theorem dX5_replays_64 : decode cX5_replays 64 = .ok (.imul, 1) := by decide +kernel
theorem dX5_replays_65 : decode cX5_replays 65 = .ok (.iadd, 1) := by decide +kernel
theorem dX5_replays_66 : decode cX5_replays 66 = .ok (.iconst 5, 1) := by decide +kernel
theorem dX5_replays_67 : decode cX5_replays 67 = .ok (.iadd, 1) := by decide +kernel
theorem dX5_replays_68 : decode cX5_replays 68 = .ok (.aload_n 0, 1) := by decide +kernel
theorem dX5_replays_69 : decode cX5_replays 69 = .ok (.iload_n 1, 1) := by decide +kernel
theorem dX5_replays_70 : decode cX5_replays 70 = .ok (.iconst 0, 1) := by decide +kernel
theorem dX5_replays_71 : decode cX5_replays 71 = .ok (.invokevirtual 57, 3) := by decide +kernel
theorem dX5_replays_74 : decode cX5_replays 74 = .ok (.invokevirtual 81, 3) := by decide +kernel
theorem dX5_replays_77 : decode cX5_replays 77 = .ok (.aload_n 0, 1) := by decide +kernel
theorem dX5_replays_78 : decode cX5_replays 78 = .ok (.iload_n 1, 1) := by decide +kernel
theorem dX5_replays_79 : decode cX5_replays 79 = .ok (.iconst 0, 1) := by decide +kernel
theorem dX5_replays_80 : decode cX5_replays 80 = .ok (.aload_n 0, 1) := by decide +kernel
theorem dX5_replays_81 : decode cX5_replays 81 = .ok (.iload_n 1, 1) := by decide +kernel
theorem dX5_replays_82 : decode cX5_replays 82 = .ok (.iconst 0, 1) := by decide +kernel
theorem dX5_replays_83 : decode cX5_replays 83 = .ok (.invokevirtual 57, 3) := by decide +kernel
theorem dX5_replays_86 : decode cX5_replays 86 = .ok (.iconst 1, 1) := by decide +kernel
theorem dX5_replays_87 : decode cX5_replays 87 = .ok (.iadd, 1) := by decide +kernel
theorem dX5_replays_88 : decode cX5_replays 88 = .ok (.invokevirtual 85, 3) := by decide +kernel
theorem dX5_replays_91 : decode cX5_replays 91 = .ok (.iinc 4 1, 3) := by decide +kernel
theorem dX5_replays_94 : decode cX5_replays 94 = .ok (.goto (-50), 3) := by decide +kernel
theorem dX5_replays_97 : decode cX5_replays 97 = .ok (.aload_n 0, 1) := by decide +kernel
theorem dX5_replays_98 : decode cX5_replays 98 = .ok (.iload_n 1, 1) := by decide +kernel
theorem dX5_replays_99 : decode cX5_replays 99 = .ok (.iconst 2, 1) := by decide +kernel
theorem dX5_replays_100 : decode cX5_replays 100 = .ok (.aload_n 0, 1) := by decide +kernel
theorem dX5_replays_101 : decode cX5_replays 101 = .ok (.iload_n 1, 1) := by decide +kernel
theorem dX5_replays_102 : decode cX5_replays 102 = .ok (.iconst 2, 1) := by decide +kernel
theorem dX5_replays_103 : decode cX5_replays 103 = .ok (.invokevirtual 57, 3) := by decide +kernel
theorem dX5_replays_106 : decode cX5_replays 106 = .ok (.aload_n 0, 1) := by decide +kernel
theorem dX5_replays_107 : decode cX5_replays 107 = .ok (.getfield 51, 3) := by decide +kernel
theorem dX5_replays_110 : decode cX5_replays 110 = .ok (.iadd, 1) := by decide +kernel
theorem dX5_replays_111 : decode cX5_replays 111 = .ok (.invokevirtual 85, 3) := by decide +kernel
theorem dX5_replays_114 : decode cX5_replays 114 = .ok (.iconst 0, 1) := by decide +kernel
theorem dX5_replays_115 : decode cX5_replays 115 = .ok (.ireturn, 1) := by decide +kernel
theorem dX5_snaps_0 : decode cX5_snaps 0 = .ok (.iload_n 1, 1) := by decide +kernel
theorem dX5_snaps_1 : decode cX5_snaps 1 = .ok (.invokestatic 75, 3) := by decide +kernel
theorem dX5_snaps_4 : decode cX5_snaps 4 = .ok (.ifCond .ne 5, 3) := by decide +kernel
theorem dX5_snaps_7 : decode cX5_snaps 7 = .ok (.iconst 1, 1) := by decide +kernel
theorem dX5_snaps_8 : decode cX5_snaps 8 = .ok (.ireturn, 1) := by decide +kernel
theorem dX5_snaps_9 : decode cX5_snaps 9 = .ok (.aload_n 0, 1) := by decide +kernel
theorem dX5_snaps_10 : decode cX5_snaps 10 = .ok (.iload_n 1, 1) := by decide +kernel
theorem dX5_snaps_11 : decode cX5_snaps 11 = .ok (.iconst 1, 1) := by decide +kernel
theorem dX5_snaps_12 : decode cX5_snaps 12 = .ok (.invokevirtual 57, 3) := by decide +kernel
theorem dX5_snaps_15 : decode cX5_snaps 15 = .ok (.ifCond .ne 5, 3) := by decide +kernel
theorem dX5_snaps_18 : decode cX5_snaps 18 = .ok (.iconst 2, 1) := by decide +kernel
theorem dX5_snaps_19 : decode cX5_snaps 19 = .ok (.ireturn, 1) := by decide +kernel
theorem dX5_snaps_20 : decode cX5_snaps 20 = .ok (.aload_n 0, 1) := by decide +kernel
theorem dX5_snaps_21 : decode cX5_snaps 21 = .ok (.iload_n 1, 1) := by decide +kernel
theorem dX5_snaps_22 : decode cX5_snaps 22 = .ok (.iconst 4, 1) := by decide +kernel
theorem dX5_snaps_23 : decode cX5_snaps 23 = .ok (.aload_n 0, 1) := by decide +kernel
theorem dX5_snaps_24 : decode cX5_snaps 24 = .ok (.iload_n 1, 1) := by decide +kernel
theorem dX5_snaps_25 : decode cX5_snaps 25 = .ok (.iconst 0, 1) := by decide +kernel
theorem dX5_snaps_26 : decode cX5_snaps 26 = .ok (.invokevirtual 57, 3) := by decide +kernel
theorem dX5_snaps_29 : decode cX5_snaps 29 = .ok (.invokevirtual 85, 3) := by decide +kernel
theorem dX5_snaps_32 : decode cX5_snaps 32 = .ok (.iconst 0, 1) := by decide +kernel
theorem dX5_snaps_33 : decode cX5_snaps 33 = .ok (.istore_n 2, 1) := by decide +kernel
theorem dX5_snaps_34 : decode cX5_snaps 34 = .ok (.iload_n 2, 1) := by decide +kernel
theorem dX5_snaps_35 : decode cX5_snaps 35 = .ok (.bipush 8, 2) := by decide +kernel
theorem dX5_snaps_37 : decode cX5_snaps 37 = .ok (.if_icmp .ge 26, 3) := by decide +kernel
theorem dX5_snaps_40 : decode cX5_snaps 40 = .ok (.aload_n 0, 1) := by decide +kernel
theorem dX5_snaps_41 : decode cX5_snaps 41 = .ok (.iload_n 1, 1) := by decide +kernel
theorem dX5_snaps_42 : decode cX5_snaps 42 = .ok (.bipush 13, 2) := by decide +kernel
theorem dX5_snaps_44 : decode cX5_snaps 44 = .ok (.iload_n 2, 1) := by decide +kernel
theorem dX5_snaps_45 : decode cX5_snaps 45 = .ok (.iadd, 1) := by decide +kernel
theorem dX5_snaps_46 : decode cX5_snaps 46 = .ok (.aload_n 0, 1) := by decide +kernel
theorem dX5_snaps_47 : decode cX5_snaps 47 = .ok (.iload_n 1, 1) := by decide +kernel
theorem dX5_snaps_48 : decode cX5_snaps 48 = .ok (.iconst 5, 1) := by decide +kernel
theorem dX5_snaps_49 : decode cX5_snaps 49 = .ok (.iload_n 2, 1) := by decide +kernel
theorem dX5_snaps_50 : decode cX5_snaps 50 = .ok (.iadd, 1) := by decide +kernel
theorem dX5_snaps_51 : decode cX5_snaps 51 = .ok (.invokevirtual 57, 3) := by decide +kernel
theorem dX5_snaps_54 : decode cX5_snaps 54 = .ok (.invokevirtual 85, 3) := by decide +kernel
theorem dX5_snaps_57 : decode cX5_snaps 57 = .ok (.iinc 2 1, 3) := by decide +kernel
theorem dX5_snaps_60 : decode cX5_snaps 60 = .ok (.goto (-26), 3) := by decide +kernel
theorem dX5_snaps_63 : decode cX5_snaps 63 = .ok (.aload_n 0, 1) := by decide +kernel
theorem dX5_snaps_64 : decode cX5_snaps 64 = .ok (.aload_n 0, 1) := by decide +kernel
theorem dX5_snaps_65 : decode cX5_snaps 65 = .ok (.invokevirtual 88, 3) := by decide +kernel
theorem dX5_snaps_68 : decode cX5_snaps 68 = .ok (.aload_n 0, 1) := by decide +kernel
theorem dX5_snaps_69 : decode cX5_snaps 69 = .ok (.getfield 7, 3) := by decide +kernel
theorem dX5_snaps_72 : decode cX5_snaps 72 = .ok (.iconst 1, 1) := by decide +kernel
theorem dX5_snaps_73 : decode cX5_snaps 73 = .ok (.iaload, 1) := by decide +kernel
theorem dX5_snaps_74 : decode cX5_snaps 74 = .ok (.isub, 1) := by decide +kernel
theorem dX5_snaps_75 : decode cX5_snaps 75 = .ok (.putfield 51, 3) := by decide +kernel
theorem dX5_snaps_78 : decode cX5_snaps 78 = .ok (.aload_n 0, 1) := by decide +kernel
theorem dX5_snaps_79 : decode cX5_snaps 79 = .ok (.getfield 7, 3) := by decide +kernel
theorem dX5_snaps_82 : decode cX5_snaps 82 = .ok (.iconst 1, 1) := by decide +kernel
theorem dX5_snaps_83 : decode cX5_snaps 83 = .ok (.aload_n 0, 1) := by decide +kernel
theorem dX5_snaps_84 : decode cX5_snaps 84 = .ok (.invokevirtual 88, 3) := by decide +kernel
theorem dX5_snaps_87 : decode cX5_snaps 87 = .ok (.iastore, 1) := by decide +kernel
theorem dX5_snaps_88 : decode cX5_snaps 88 = .ok (.iconst 0, 1) := by decide +kernel
theorem dX5_snaps_89 : decode cX5_snaps 89 = .ok (.ireturn, 1) := by decide +kernel
theorem dX5_crashes_0 : decode cX5_crashes 0 = .ok (.iload_n 1, 1) := by decide +kernel
theorem dX5_crashes_1 : decode cX5_crashes 1 = .ok (.invokestatic 75, 3) := by decide +kernel
theorem dX5_crashes_4 : decode cX5_crashes 4 = .ok (.ifCond .ne 5, 3) := by decide +kernel
theorem dX5_crashes_7 : decode cX5_crashes 7 = .ok (.iconst 1, 1) := by decide +kernel
theorem dX5_crashes_8 : decode cX5_crashes 8 = .ok (.ireturn, 1) := by decide +kernel
theorem dX5_crashes_9 : decode cX5_crashes 9 = .ok (.aload_n 0, 1) := by decide +kernel
theorem dX5_crashes_10 : decode cX5_crashes 10 = .ok (.aload_n 0, 1) := by decide +kernel
theorem dX5_crashes_11 : decode cX5_crashes 11 = .ok (.iload_n 1, 1) := by decide +kernel
theorem dX5_crashes_12 : decode cX5_crashes 12 = .ok (.iconst 0, 1) := by decide +kernel
theorem dX5_crashes_13 : decode cX5_crashes 13 = .ok (.invokevirtual 57, 3) := by decide +kernel
theorem dX5_crashes_16 : decode cX5_crashes 16 = .ok (.aload_n 0, 1) := by decide +kernel
theorem dX5_crashes_17 : decode cX5_crashes 17 = .ok (.iload_n 1, 1) := by decide +kernel
theorem dX5_crashes_18 : decode cX5_crashes 18 = .ok (.iconst 4, 1) := by decide +kernel
theorem dX5_crashes_19 : decode cX5_crashes 19 = .ok (.invokevirtual 57, 3) := by decide +kernel
theorem dX5_crashes_22 : decode cX5_crashes 22 = .ok (.isub, 1) := by decide +kernel
theorem dX5_crashes_23 : decode cX5_crashes 23 = .ok (.putfield 51, 3) := by decide +kernel
theorem dX5_crashes_26 : decode cX5_crashes 26 = .ok (.aload_n 0, 1) := by decide +kernel
theorem dX5_crashes_27 : decode cX5_crashes 27 = .ok (.iload_n 1, 1) := by decide +kernel
theorem dX5_crashes_28 : decode cX5_crashes 28 = .ok (.iconst 0, 1) := by decide +kernel
theorem dX5_crashes_29 : decode cX5_crashes 29 = .ok (.aload_n 0, 1) := by decide +kernel
theorem dX5_crashes_30 : decode cX5_crashes 30 = .ok (.iload_n 1, 1) := by decide +kernel
theorem dX5_crashes_31 : decode cX5_crashes 31 = .ok (.iconst 4, 1) := by decide +kernel
theorem dX5_crashes_32 : decode cX5_crashes 32 = .ok (.invokevirtual 57, 3) := by decide +kernel
theorem dX5_crashes_35 : decode cX5_crashes 35 = .ok (.invokevirtual 85, 3) := by decide +kernel
theorem dX5_crashes_38 : decode cX5_crashes 38 = .ok (.iconst 0, 1) := by decide +kernel
theorem dX5_crashes_39 : decode cX5_crashes 39 = .ok (.istore_n 2, 1) := by decide +kernel
theorem dX5_crashes_40 : decode cX5_crashes 40 = .ok (.iload_n 2, 1) := by decide +kernel
theorem dX5_crashes_41 : decode cX5_crashes 41 = .ok (.bipush 8, 2) := by decide +kernel
theorem dX5_crashes_43 : decode cX5_crashes 43 = .ok (.if_icmp .ge 26, 3) := by decide +kernel
theorem dX5_crashes_46 : decode cX5_crashes 46 = .ok (.aload_n 0, 1) := by decide +kernel
theorem dX5_crashes_47 : decode cX5_crashes 47 = .ok (.iload_n 1, 1) := by decide +kernel
theorem dX5_crashes_48 : decode cX5_crashes 48 = .ok (.iconst 5, 1) := by decide +kernel
theorem dX5_crashes_49 : decode cX5_crashes 49 = .ok (.iload_n 2, 1) := by decide +kernel
theorem dX5_crashes_50 : decode cX5_crashes 50 = .ok (.iadd, 1) := by decide +kernel
theorem dX5_crashes_51 : decode cX5_crashes 51 = .ok (.aload_n 0, 1) := by decide +kernel
theorem dX5_crashes_52 : decode cX5_crashes 52 = .ok (.iload_n 1, 1) := by decide +kernel
theorem dX5_crashes_53 : decode cX5_crashes 53 = .ok (.bipush 13, 2) := by decide +kernel
theorem dX5_crashes_55 : decode cX5_crashes 55 = .ok (.iload_n 2, 1) := by decide +kernel
theorem dX5_crashes_56 : decode cX5_crashes 56 = .ok (.iadd, 1) := by decide +kernel
theorem dX5_crashes_57 : decode cX5_crashes 57 = .ok (.invokevirtual 57, 3) := by decide +kernel
theorem dX5_crashes_60 : decode cX5_crashes 60 = .ok (.invokevirtual 85, 3) := by decide +kernel
theorem dX5_crashes_63 : decode cX5_crashes 63 = .ok (.iinc 2 1, 3) := by decide +kernel
theorem dX5_crashes_66 : decode cX5_crashes 66 = .ok (.goto (-26), 3) := by decide +kernel
theorem dX5_crashes_69 : decode cX5_crashes 69 = .ok (.aload_n 0, 1) := by decide +kernel
theorem dX5_crashes_70 : decode cX5_crashes 70 = .ok (.iload_n 1, 1) := by decide +kernel
theorem dX5_crashes_71 : decode cX5_crashes 71 = .ok (.iconst 3, 1) := by decide +kernel
theorem dX5_crashes_72 : decode cX5_crashes 72 = .ok (.aload_n 0, 1) := by decide +kernel
theorem dX5_crashes_73 : decode cX5_crashes 73 = .ok (.iload_n 1, 1) := by decide +kernel
theorem dX5_crashes_74 : decode cX5_crashes 74 = .ok (.iconst 3, 1) := by decide +kernel
theorem dX5_crashes_75 : decode cX5_crashes 75 = .ok (.invokevirtual 57, 3) := by decide +kernel
theorem dX5_crashes_78 : decode cX5_crashes 78 = .ok (.iconst 1, 1) := by decide +kernel
theorem dX5_crashes_79 : decode cX5_crashes 79 = .ok (.iadd, 1) := by decide +kernel
theorem dX5_crashes_80 : decode cX5_crashes 80 = .ok (.invokevirtual 85, 3) := by decide +kernel
theorem dX5_crashes_83 : decode cX5_crashes 83 = .ok (.iconst 0, 1) := by decide +kernel
theorem dX5_crashes_84 : decode cX5_crashes 84 = .ok (.ireturn, 1) := by decide +kernel
theorem dX5_begin_0 : decode cX5_begin 0 = .ok (.iload_n 1, 1) := by decide +kernel
theorem dX5_begin_1 : decode cX5_begin 1 = .ok (.iconst 4, 1) := by decide +kernel
theorem dX5_begin_2 : decode cX5_begin 2 = .ok (.bipush 32, 2) := by decide +kernel
theorem dX5_begin_4 : decode cX5_begin 4 = .ok (.invokestatic 33, 3) := by decide +kernel
theorem dX5_begin_7 : decode cX5_begin 7 = .ok (.ifCond .ne 9, 3) := by decide +kernel
theorem dX5_begin_10 : decode cX5_begin 10 = .ok (.aload_n 0, 1) := by decide +kernel
theorem dX5_begin_11 : decode cX5_begin 11 = .ok (.iconst 1, 1) := by decide +kernel
theorem dX5_begin_12 : decode cX5_begin 12 = .ok (.invokevirtual 44, 3) := by decide +kernel
theorem dX5_begin_15 : decode cX5_begin 15 = .ok (.ireturn, 1) := by decide +kernel
theorem dX5_begin_16 : decode cX5_begin 16 = .ok (.aload_n 0, 1) := by decide +kernel
theorem dX5_begin_17 : decode cX5_begin 17 = .ok (.invokevirtual 91, 3) := by decide +kernel
theorem dX5_begin_20 : decode cX5_begin 20 = .ok (.aload_n 0, 1) := by decide +kernel
theorem dX5_begin_21 : decode cX5_begin 21 = .ok (.invokevirtual 48, 3) := by decide +kernel
theorem dX5_begin_24 : decode cX5_begin 24 = .ok (.aload_n 0, 1) := by decide +kernel
theorem dX5_begin_25 : decode cX5_begin 25 = .ok (.invokevirtual 67, 3) := by decide +kernel
theorem dX5_begin_28 : decode cX5_begin 28 = .ok (.istore_n 2, 1) := by decide +kernel
theorem dX5_begin_29 : decode cX5_begin 29 = .ok (.aload_n 0, 1) := by decide +kernel
theorem dX5_begin_30 : decode cX5_begin 30 = .ok (.iload_n 1, 1) := by decide +kernel
theorem dX5_begin_31 : decode cX5_begin 31 = .ok (.invokevirtual 25, 3) := by decide +kernel
theorem dX5_begin_34 : decode cX5_begin 34 = .ok (.aload_n 0, 1) := by decide +kernel
theorem dX5_begin_35 : decode cX5_begin 35 = .ok (.iload_n 2, 1) := by decide +kernel
theorem dX5_begin_36 : decode cX5_begin 36 = .ok (.invokevirtual 54, 3) := by decide +kernel
theorem dX5_begin_39 : decode cX5_begin 39 = .ok (.ireturn, 1) := by decide +kernel
theorem dX5_write_0 : decode cX5_write 0 = .ok (.aload_n 0, 1) := by decide +kernel
theorem dX5_write_1 : decode cX5_write 1 = .ok (.invokevirtual 91, 3) := by decide +kernel
theorem dX5_write_4 : decode cX5_write 4 = .ok (.aload_n 0, 1) := by decide +kernel
theorem dX5_write_5 : decode cX5_write 5 = .ok (.aload_n 0, 1) := by decide +kernel
theorem dX5_write_6 : decode cX5_write 6 = .ok (.iload_n 1, 1) := by decide +kernel
theorem dX5_write_7 : decode cX5_write 7 = .ok (.iload_n 2, 1) := by decide +kernel
theorem dX5_write_8 : decode cX5_write 8 = .ok (.iload_n 3, 1) := by decide +kernel
theorem dX5_write_9 : decode cX5_write 9 = .ok (.iload 4, 2) := by decide +kernel
theorem dX5_write_11 : decode cX5_write 11 = .ok (.invokevirtual 94, 3) := by decide +kernel
theorem dX5_write_14 : decode cX5_write 14 = .ok (.invokevirtual 98, 3) := by decide +kernel
theorem dX5_write_17 : decode cX5_write 17 = .ok (.ireturn, 1) := by decide +kernel
theorem dX5_ones_0 : decode cX5_ones 0 = .ok (.iload_n 0, 1) := by decide +kernel
theorem dX5_ones_1 : decode cX5_ones 1 = .ok (.iconst 1, 1) := by decide +kernel
theorem dX5_ones_2 : decode cX5_ones 2 = .ok (.iand, 1) := by decide +kernel
theorem dX5_ones_3 : decode cX5_ones 3 = .ok (.iload_n 0, 1) := by decide +kernel
theorem dX5_ones_4 : decode cX5_ones 4 = .ok (.iconst 1, 1) := by decide +kernel
theorem dX5_ones_5 : decode cX5_ones 5 = .ok (.ishr, 1) := by decide +kernel
theorem dX5_ones_6 : decode cX5_ones 6 = .ok (.iconst 1, 1) := by decide +kernel
theorem dX5_ones_7 : decode cX5_ones 7 = .ok (.iand, 1) := by decide +kernel
theorem dX5_ones_8 : decode cX5_ones 8 = .ok (.iadd, 1) := by decide +kernel
theorem dX5_ones_9 : decode cX5_ones 9 = .ok (.ireturn, 1) := by decide +kernel
theorem dX5_spoil_0 : decode cX5_spoil 0 = .ok (.aload_n 0, 1) := by decide +kernel
theorem dX5_spoil_1 : decode cX5_spoil 1 = .ok (.iload_n 1, 1) := by decide +kernel
theorem dX5_spoil_2 : decode cX5_spoil 2 = .ok (.invokevirtual 101, 3) := by decide +kernel
theorem dX5_spoil_5 : decode cX5_spoil 5 = .ok (.ifCond .ne 9, 3) := by decide +kernel
theorem dX5_spoil_8 : decode cX5_spoil 8 = .ok (.aload_n 0, 1) := by decide +kernel
theorem dX5_spoil_9 : decode cX5_spoil 9 = .ok (.iconst 1, 1) := by decide +kernel
theorem dX5_spoil_10 : decode cX5_spoil 10 = .ok (.invokevirtual 44, 3) := by decide +kernel
theorem dX5_spoil_13 : decode cX5_spoil 13 = .ok (.ireturn, 1) := by decide +kernel
theorem dX5_spoil_14 : decode cX5_spoil 14 = .ok (.iload_n 2, 1) := by decide +kernel
theorem dX5_spoil_15 : decode cX5_spoil 15 = .ok (.iconst 0, 1) := by decide +kernel
theorem dX5_spoil_16 : decode cX5_spoil 16 = .ok (.iconst 1, 1) := by decide +kernel
theorem dX5_spoil_17 : decode cX5_spoil 17 = .ok (.invokestatic 33, 3) := by decide +kernel
theorem dX5_spoil_20 : decode cX5_spoil 20 = .ok (.ifCond .ne 9, 3) := by decide +kernel
theorem dX5_spoil_23 : decode cX5_spoil 23 = .ok (.aload_n 0, 1) := by decide +kernel
theorem dX5_spoil_24 : decode cX5_spoil 24 = .ok (.iconst 2, 1) := by decide +kernel
theorem dX5_spoil_25 : decode cX5_spoil 25 = .ok (.invokevirtual 44, 3) := by decide +kernel
theorem dX5_spoil_28 : decode cX5_spoil 28 = .ok (.ireturn, 1) := by decide +kernel
theorem dX5_spoil_29 : decode cX5_spoil 29 = .ok (.aload_n 0, 1) := by decide +kernel
theorem dX5_spoil_30 : decode cX5_spoil 30 = .ok (.invokevirtual 91, 3) := by decide +kernel
theorem dX5_spoil_33 : decode cX5_spoil 33 = .ok (.aload_n 0, 1) := by decide +kernel
theorem dX5_spoil_34 : decode cX5_spoil 34 = .ok (.invokevirtual 48, 3) := by decide +kernel
theorem dX5_spoil_37 : decode cX5_spoil 37 = .ok (.aload_n 0, 1) := by decide +kernel
theorem dX5_spoil_38 : decode cX5_spoil 38 = .ok (.iload_n 1, 1) := by decide +kernel
theorem dX5_spoil_39 : decode cX5_spoil 39 = .ok (.iconst 4, 1) := by decide +kernel
theorem dX5_spoil_40 : decode cX5_spoil 40 = .ok (.aload_n 0, 1) := by decide +kernel
theorem dX5_spoil_41 : decode cX5_spoil 41 = .ok (.iload_n 1, 1) := by decide +kernel
theorem dX5_spoil_42 : decode cX5_spoil 42 = .ok (.iconst 4, 1) := by decide +kernel
theorem dX5_spoil_43 : decode cX5_spoil 43 = .ok (.invokevirtual 37, 3) := by decide +kernel
theorem dX5_spoil_46 : decode cX5_spoil 46 = .ok (.iconst 1, 1) := by decide +kernel
theorem dX5_spoil_47 : decode cX5_spoil 47 = .ok (.iload_n 2, 1) := by decide +kernel
theorem dX5_spoil_48 : decode cX5_spoil 48 = .ok (.ishl, 1) := by decide +kernel
theorem dX5_spoil_49 : decode cX5_spoil 49 = .ok (.ior, 1) := by decide +kernel
theorem dX5_spoil_50 : decode cX5_spoil 50 = .ok (.invokevirtual 71, 3) := by decide +kernel
theorem dX5_spoil_53 : decode cX5_spoil 53 = .ok (.aload_n 0, 1) := by decide +kernel
theorem dX5_spoil_54 : decode cX5_spoil 54 = .ok (.aload_n 0, 1) := by decide +kernel
theorem dX5_spoil_55 : decode cX5_spoil 55 = .ok (.iload_n 1, 1) := by decide +kernel
theorem dX5_spoil_56 : decode cX5_spoil 56 = .ok (.iconst 4, 1) := by decide +kernel
theorem dX5_spoil_57 : decode cX5_spoil 57 = .ok (.invokevirtual 37, 3) := by decide +kernel
theorem dX5_spoil_60 : decode cX5_spoil 60 = .ok (.invokestatic 104, 3) := by decide +kernel
theorem dX5_spoil_63 : decode cX5_spoil 63 = .ok (.invokevirtual 54, 3) := by decide +kernel
theorem dX5_spoil_66 : decode cX5_spoil 66 = .ok (.ireturn, 1) := by decide +kernel
theorem dX5_isKnown_0 : decode cX5_isKnown 0 = .ok (.aload_n 0, 1) := by decide +kernel
theorem dX5_isKnown_1 : decode cX5_isKnown 1 = .ok (.iconst 0, 1) := by decide +kernel
theorem dX5_isKnown_2 : decode cX5_isKnown 2 = .ok (.iconst 1, 1) := by decide +kernel
theorem dX5_isKnown_3 : decode cX5_isKnown 3 = .ok (.invokevirtual 57, 3) := by decide +kernel
theorem dX5_isKnown_6 : decode cX5_isKnown 6 = .ok (.iconst 1, 1) := by decide +kernel
theorem dX5_isKnown_7 : decode cX5_isKnown 7 = .ok (.if_icmp .ne 13, 3) := by decide +kernel
theorem dX5_isKnown_10 : decode cX5_isKnown 10 = .ok (.aload_n 0, 1) := by decide +kernel
theorem dX5_isKnown_11 : decode cX5_isKnown 11 = .ok (.iconst 0, 1) := by decide +kernel
theorem dX5_isKnown_12 : decode cX5_isKnown 12 = .ok (.iconst 0, 1) := by decide +kernel
theorem dX5_isKnown_13 : decode cX5_isKnown 13 = .ok (.invokevirtual 57, 3) := by decide +kernel
theorem dX5_isKnown_16 : decode cX5_isKnown 16 = .ok (.iload_n 1, 1) := by decide +kernel
theorem dX5_isKnown_17 : decode cX5_isKnown 17 = .ok (.if_icmp .gt 23, 3) := by decide +kernel
theorem dX5_isKnown_20 : decode cX5_isKnown 20 = .ok (.aload_n 0, 1) := by decide +kernel
theorem dX5_isKnown_21 : decode cX5_isKnown 21 = .ok (.iconst 1, 1) := by decide +kernel
theorem dX5_isKnown_22 : decode cX5_isKnown 22 = .ok (.iconst 1, 1) := by decide +kernel
theorem dX5_isKnown_23 : decode cX5_isKnown 23 = .ok (.invokevirtual 57, 3) := by decide +kernel
theorem dX5_isKnown_26 : decode cX5_isKnown 26 = .ok (.iconst 1, 1) := by decide +kernel
theorem dX5_isKnown_27 : decode cX5_isKnown 27 = .ok (.if_icmp .ne 17, 3) := by decide +kernel
theorem dX5_isKnown_30 : decode cX5_isKnown 30 = .ok (.aload_n 0, 1) := by decide +kernel
theorem dX5_isKnown_31 : decode cX5_isKnown 31 = .ok (.iconst 1, 1) := by decide +kernel
theorem dX5_isKnown_32 : decode cX5_isKnown 32 = .ok (.iconst 0, 1) := by decide +kernel
theorem dX5_isKnown_33 : decode cX5_isKnown 33 = .ok (.invokevirtual 57, 3) := by decide +kernel
theorem dX5_isKnown_36 : decode cX5_isKnown 36 = .ok (.iload_n 1, 1) := by decide +kernel
theorem dX5_isKnown_37 : decode cX5_isKnown 37 = .ok (.if_icmp .le 7, 3) := by decide +kernel
theorem dX5_isKnown_40 : decode cX5_isKnown 40 = .ok (.iconst 1, 1) := by decide +kernel
theorem dX5_isKnown_41 : decode cX5_isKnown 41 = .ok (.goto 4, 3) := by decide +kernel
theorem dX5_isKnown_44 : decode cX5_isKnown 44 = .ok (.iconst 0, 1) := by decide +kernel
theorem dX5_isKnown_45 : decode cX5_isKnown 45 = .ok (.ireturn, 1) := by decide +kernel
theorem dX5_repair_0 : decode cX5_repair 0 = .ok (.aload_n 0, 1) := by decide +kernel
theorem dX5_repair_1 : decode cX5_repair 1 = .ok (.invokevirtual 91, 3) := by decide +kernel
theorem dX5_repair_4 : decode cX5_repair 4 = .ok (.aload_n 0, 1) := by decide +kernel
theorem dX5_repair_5 : decode cX5_repair 5 = .ok (.invokevirtual 48, 3) := by decide +kernel
theorem dX5_repair_8 : decode cX5_repair 8 = .ok (.iconst 0, 1) := by decide +kernel
theorem dX5_repair_9 : decode cX5_repair 9 = .ok (.istore_n 1, 1) := by decide +kernel
theorem dX5_repair_10 : decode cX5_repair 10 = .ok (.aload_n 0, 1) := by decide +kernel
theorem dX5_repair_11 : decode cX5_repair 11 = .ok (.getfield 7, 3) := by decide +kernel
theorem dX5_repair_14 : decode cX5_repair 14 = .ok (.iconst 1, 1) := by decide +kernel
theorem dX5_repair_15 : decode cX5_repair 15 = .ok (.iaload, 1) := by decide +kernel
theorem dX5_repair_16 : decode cX5_repair 16 = .ok (.istore_n 2, 1) := by decide +kernel
theorem dX5_repair_17 : decode cX5_repair 17 = .ok (.iload_n 2, 1) := by decide +kernel
theorem dX5_repair_18 : decode cX5_repair 18 = .ok (.aload_n 0, 1) := by decide +kernel
theorem dX5_repair_19 : decode cX5_repair 19 = .ok (.getfield 7, 3) := by decide +kernel
theorem dX5_repair_22 : decode cX5_repair 22 = .ok (.iconst 2, 1) := by decide +kernel
theorem dX5_repair_23 : decode cX5_repair 23 = .ok (.iaload, 1) := by decide +kernel
theorem dX5_repair_24 : decode cX5_repair 24 = .ok (.if_icmp .ge 44, 3) := by decide +kernel
theorem dX5_repair_27 : decode cX5_repair 27 = .ok (.aload_n 0, 1) := by decide +kernel
theorem dX5_repair_28 : decode cX5_repair 28 = .ok (.iload_n 2, 1) := by decide +kernel
theorem dX5_repair_29 : decode cX5_repair 29 = .ok (.invokevirtual 60, 3) := by decide +kernel
theorem dX5_repair_32 : decode cX5_repair 32 = .ok (.ifCond .ne 11, 3) := by decide +kernel
theorem dX5_repair_35 : decode cX5_repair 35 = .ok (.aload_n 0, 1) := by decide +kernel
theorem dX5_repair_36 : decode cX5_repair 36 = .ok (.iload_n 2, 1) := by decide +kernel
theorem dX5_repair_37 : decode cX5_repair 37 = .ok (.invokevirtual 107, 3) := by decide +kernel
theorem dX5_repair_40 : decode cX5_repair 40 = .ok (.ifCond .eq 22, 3) := by decide +kernel
theorem dX5_repair_43 : decode cX5_repair 43 = .ok (.iload_n 1, 1) := by decide +kernel
theorem dX5_repair_44 : decode cX5_repair 44 = .ok (.aload_n 0, 1) := by decide +kernel
theorem dX5_repair_45 : decode cX5_repair 45 = .ok (.iload_n 2, 1) := by decide +kernel
theorem dX5_repair_46 : decode cX5_repair 46 = .ok (.iconst 4, 1) := by decide +kernel
theorem dX5_repair_47 : decode cX5_repair 47 = .ok (.invokevirtual 37, 3) := by decide +kernel
theorem dX5_repair_50 : decode cX5_repair 50 = .ok (.invokestatic 104, 3) := by decide +kernel
theorem dX5_repair_53 : decode cX5_repair 53 = .ok (.iadd, 1) := by decide +kernel
theorem dX5_repair_54 : decode cX5_repair 54 = .ok (.istore_n 1, 1) := by decide +kernel
theorem dX5_repair_55 : decode cX5_repair 55 = .ok (.aload_n 0, 1) := by decide +kernel
theorem dX5_repair_56 : decode cX5_repair 56 = .ok (.iload_n 2, 1) := by decide +kernel
theorem dX5_repair_57 : decode cX5_repair 57 = .ok (.iconst 4, 1) := by decide +kernel
theorem dX5_repair_58 : decode cX5_repair 58 = .ok (.iconst 0, 1) := by decide +kernel
theorem dX5_repair_59 : decode cX5_repair 59 = .ok (.invokevirtual 71, 3) := by decide +kernel
theorem dX5_repair_62 : decode cX5_repair 62 = .ok (.iinc 2 1, 3) := by decide +kernel
theorem dX5_repair_65 : decode cX5_repair 65 = .ok (.goto (-48), 3) := by decide +kernel
theorem dX5_repair_68 : decode cX5_repair 68 = .ok (.aload_n 0, 1) := by decide +kernel
theorem dX5_repair_69 : decode cX5_repair 69 = .ok (.getfield 7, 3) := by decide +kernel
theorem dX5_repair_72 : decode cX5_repair 72 = .ok (.iconst 3, 1) := by decide +kernel
theorem dX5_repair_73 : decode cX5_repair 73 = .ok (.dup2, 1) := by decide +kernel
theorem dX5_repair_74 : decode cX5_repair 74 = .ok (.iaload, 1) := by decide +kernel
theorem dX5_repair_75 : decode cX5_repair 75 = .ok (.iload_n 1, 1) := by decide +kernel
theorem dX5_repair_76 : decode cX5_repair 76 = .ok (.iadd, 1) := by decide +kernel
theorem dX5_repair_77 : decode cX5_repair 77 = .ok (.iastore, 1) := by decide +kernel
theorem dX5_repair_78 : decode cX5_repair 78 = .ok (.aload_n 0, 1) := by decide +kernel
theorem dX5_repair_79 : decode cX5_repair 79 = .ok (.iload_n 1, 1) := by decide +kernel
theorem dX5_repair_80 : decode cX5_repair 80 = .ok (.invokevirtual 54, 3) := by decide +kernel
theorem dX5_repair_83 : decode cX5_repair 83 = .ok (.ireturn, 1) := by decide +kernel
theorem dX5_replay_0 : decode cX5_replay 0 = .ok (.aload_n 0, 1) := by decide +kernel
theorem dX5_replay_1 : decode cX5_replay 1 = .ok (.invokevirtual 91, 3) := by decide +kernel
theorem dX5_replay_4 : decode cX5_replay 4 = .ok (.aload_n 0, 1) := by decide +kernel
theorem dX5_replay_5 : decode cX5_replay 5 = .ok (.aload_n 0, 1) := by decide +kernel
theorem dX5_replay_6 : decode cX5_replay 6 = .ok (.iload_n 1, 1) := by decide +kernel
theorem dX5_replay_7 : decode cX5_replay 7 = .ok (.iload_n 2, 1) := by decide +kernel
theorem dX5_replay_8 : decode cX5_replay 8 = .ok (.invokevirtual 110, 3) := by decide +kernel
theorem dX5_replay_11 : decode cX5_replay 11 = .ok (.invokevirtual 98, 3) := by decide +kernel
theorem dX5_replay_14 : decode cX5_replay 14 = .ok (.ireturn, 1) := by decide +kernel
theorem dX5_snapshot_0 : decode cX5_snapshot 0 = .ok (.aload_n 0, 1) := by decide +kernel
theorem dX5_snapshot_1 : decode cX5_snapshot 1 = .ok (.invokevirtual 91, 3) := by decide +kernel
theorem dX5_snapshot_4 : decode cX5_snapshot 4 = .ok (.aload_n 0, 1) := by decide +kernel
theorem dX5_snapshot_5 : decode cX5_snapshot 5 = .ok (.aload_n 0, 1) := by decide +kernel
theorem dX5_snapshot_6 : decode cX5_snapshot 6 = .ok (.iload_n 1, 1) := by decide +kernel
theorem dX5_snapshot_7 : decode cX5_snapshot 7 = .ok (.invokevirtual 113, 3) := by decide +kernel
theorem dX5_snapshot_10 : decode cX5_snapshot 10 = .ok (.invokevirtual 98, 3) := by decide +kernel
theorem dX5_snapshot_13 : decode cX5_snapshot 13 = .ok (.ireturn, 1) := by decide +kernel
theorem dX5_crash_0 : decode cX5_crash 0 = .ok (.aload_n 0, 1) := by decide +kernel
theorem dX5_crash_1 : decode cX5_crash 1 = .ok (.invokevirtual 91, 3) := by decide +kernel
theorem dX5_crash_4 : decode cX5_crash 4 = .ok (.aload_n 0, 1) := by decide +kernel
theorem dX5_crash_5 : decode cX5_crash 5 = .ok (.aload_n 0, 1) := by decide +kernel
theorem dX5_crash_6 : decode cX5_crash 6 = .ok (.iload_n 1, 1) := by decide +kernel
theorem dX5_crash_7 : decode cX5_crash 7 = .ok (.invokevirtual 116, 3) := by decide +kernel
theorem dX5_crash_10 : decode cX5_crash 10 = .ok (.invokevirtual 98, 3) := by decide +kernel
theorem dX5_crash_13 : decode cX5_crash 13 = .ok (.ireturn, 1) := by decide +kernel
theorem dX5_link_0 : decode cX5_link 0 = .ok (.iload_n 1, 1) := by decide +kernel
theorem dX5_link_1 : decode cX5_link 1 = .ok (.invokestatic 75, 3) := by decide +kernel
theorem dX5_link_4 : decode cX5_link 4 = .ok (.ifCond .ne 9, 3) := by decide +kernel
theorem dX5_link_7 : decode cX5_link 7 = .ok (.aload_n 0, 1) := by decide +kernel
theorem dX5_link_8 : decode cX5_link 8 = .ok (.iconst 1, 1) := by decide +kernel
theorem dX5_link_9 : decode cX5_link 9 = .ok (.invokevirtual 44, 3) := by decide +kernel
theorem dX5_link_12 : decode cX5_link 12 = .ok (.ireturn, 1) := by decide +kernel
theorem dX5_link_13 : decode cX5_link 13 = .ok (.iload_n 2, 1) := by decide +kernel
theorem dX5_link_14 : decode cX5_link 14 = .ok (.ifCond .eq 7, 3) := by decide +kernel
theorem dX5_link_17 : decode cX5_link 17 = .ok (.iconst 1, 1) := by decide +kernel
theorem dX5_link_18 : decode cX5_link 18 = .ok (.goto 4, 3) := by decide +kernel
theorem dX5_link_21 : decode cX5_link 21 = .ok (.iconst 0, 1) := by decide +kernel
theorem dX5_link_22 : decode cX5_link 22 = .ok (.istore_n 3, 1) := by decide +kernel
theorem dX5_link_23 : decode cX5_link 23 = .ok (.aload_n 0, 1) := by decide +kernel
theorem dX5_link_24 : decode cX5_link 24 = .ok (.iload_n 1, 1) := by decide +kernel
theorem dX5_link_25 : decode cX5_link 25 = .ok (.iconst 1, 1) := by decide +kernel
theorem dX5_link_26 : decode cX5_link 26 = .ok (.invokevirtual 57, 3) := by decide +kernel
theorem dX5_link_29 : decode cX5_link 29 = .ok (.iload_n 3, 1) := by decide +kernel
theorem dX5_link_30 : decode cX5_link 30 = .ok (.if_icmp .ne 9, 3) := by decide +kernel
theorem dX5_link_33 : decode cX5_link 33 = .ok (.aload_n 0, 1) := by decide +kernel
theorem dX5_link_34 : decode cX5_link 34 = .ok (.iconst 2, 1) := by decide +kernel
theorem dX5_link_35 : decode cX5_link 35 = .ok (.invokevirtual 44, 3) := by decide +kernel
theorem dX5_link_38 : decode cX5_link 38 = .ok (.ireturn, 1) := by decide +kernel
theorem dX5_link_39 : decode cX5_link 39 = .ok (.aload_n 0, 1) := by decide +kernel
theorem dX5_link_40 : decode cX5_link 40 = .ok (.invokevirtual 91, 3) := by decide +kernel
theorem dX5_link_43 : decode cX5_link 43 = .ok (.aload_n 0, 1) := by decide +kernel
theorem dX5_link_44 : decode cX5_link 44 = .ok (.invokevirtual 48, 3) := by decide +kernel
theorem dX5_link_47 : decode cX5_link 47 = .ok (.aload_n 0, 1) := by decide +kernel
theorem dX5_link_48 : decode cX5_link 48 = .ok (.iload_n 1, 1) := by decide +kernel
theorem dX5_link_49 : decode cX5_link 49 = .ok (.iconst 1, 1) := by decide +kernel
theorem dX5_link_50 : decode cX5_link 50 = .ok (.iload_n 3, 1) := by decide +kernel
theorem dX5_link_51 : decode cX5_link 51 = .ok (.invokevirtual 85, 3) := by decide +kernel
theorem dX5_link_54 : decode cX5_link 54 = .ok (.aload_n 0, 1) := by decide +kernel
theorem dX5_link_55 : decode cX5_link 55 = .ok (.aload_n 0, 1) := by decide +kernel
theorem dX5_link_56 : decode cX5_link 56 = .ok (.iconst 0, 1) := by decide +kernel
theorem dX5_link_57 : decode cX5_link 57 = .ok (.iconst 1, 1) := by decide +kernel
theorem dX5_link_58 : decode cX5_link 58 = .ok (.invokevirtual 57, 3) := by decide +kernel
theorem dX5_link_61 : decode cX5_link 61 = .ok (.aload_n 0, 1) := by decide +kernel
theorem dX5_link_62 : decode cX5_link 62 = .ok (.iconst 1, 1) := by decide +kernel
theorem dX5_link_63 : decode cX5_link 63 = .ok (.iconst 1, 1) := by decide +kernel
theorem dX5_link_64 : decode cX5_link 64 = .ok (.invokevirtual 57, 3) := by decide +kernel
theorem dX5_link_67 : decode cX5_link 67 = .ok (.iadd, 1) := by decide +kernel
theorem dX5_link_68 : decode cX5_link 68 = .ok (.invokevirtual 54, 3) := by decide +kernel
theorem dX5_link_71 : decode cX5_link 71 = .ok (.ireturn, 1) := by decide +kernel
theorem dX5_orderNumber_0 : decode cX5_orderNumber 0 = .ok (.iload_n 2, 1) := by decide +kernel
theorem dX5_orderNumber_1 : decode cX5_orderNumber 1 = .ok (.iconst 5, 1) := by decide +kernel
theorem dX5_orderNumber_2 : decode cX5_orderNumber 2 = .ok (.if_icmp .ge 10, 3) := by decide +kernel
theorem dX5_orderNumber_5 : decode cX5_orderNumber 5 = .ok (.aload_n 0, 1) := by decide +kernel
theorem dX5_orderNumber_6 : decode cX5_orderNumber 6 = .ok (.iload_n 1, 1) := by decide +kernel
theorem dX5_orderNumber_7 : decode cX5_orderNumber 7 = .ok (.iload_n 2, 1) := by decide +kernel
theorem dX5_orderNumber_8 : decode cX5_orderNumber 8 = .ok (.invokevirtual 37, 3) := by decide +kernel
theorem dX5_orderNumber_11 : decode cX5_orderNumber 11 = .ok (.ireturn, 1) := by decide +kernel
theorem dX5_orderNumber_12 : decode cX5_orderNumber 12 = .ok (.aload_n 0, 1) := by decide +kernel
theorem dX5_orderNumber_13 : decode cX5_orderNumber 13 = .ok (.iconst 0, 1) := by decide +kernel
theorem dX5_orderNumber_14 : decode cX5_orderNumber 14 = .ok (.iconst 0, 1) := by decide +kernel
theorem dX5_orderNumber_15 : decode cX5_orderNumber 15 = .ok (.invokevirtual 57, 3) := by decide +kernel
theorem dX5_orderNumber_18 : decode cX5_orderNumber 18 = .ok (.iload_n 1, 1) := by decide +kernel
theorem dX5_orderNumber_19 : decode cX5_orderNumber 19 = .ok (.if_icmp .le 7, 3) := by decide +kernel
theorem dX5_orderNumber_22 : decode cX5_orderNumber 22 = .ok (.iconst 1, 1) := by decide +kernel
theorem dX5_orderNumber_23 : decode cX5_orderNumber 23 = .ok (.goto 4, 3) := by decide +kernel
theorem dX5_orderNumber_26 : decode cX5_orderNumber 26 = .ok (.iconst 0, 1) := by decide +kernel
theorem dX5_orderNumber_27 : decode cX5_orderNumber 27 = .ok (.aload_n 0, 1) := by decide +kernel
theorem dX5_orderNumber_28 : decode cX5_orderNumber 28 = .ok (.iconst 1, 1) := by decide +kernel
theorem dX5_orderNumber_29 : decode cX5_orderNumber 29 = .ok (.iconst 0, 1) := by decide +kernel
theorem dX5_orderNumber_30 : decode cX5_orderNumber 30 = .ok (.invokevirtual 57, 3) := by decide +kernel
theorem dX5_orderNumber_33 : decode cX5_orderNumber 33 = .ok (.iload_n 1, 1) := by decide +kernel
theorem dX5_orderNumber_34 : decode cX5_orderNumber 34 = .ok (.if_icmp .le 7, 3) := by decide +kernel
theorem dX5_orderNumber_37 : decode cX5_orderNumber 37 = .ok (.iconst 2, 1) := by decide +kernel
theorem dX5_orderNumber_38 : decode cX5_orderNumber 38 = .ok (.goto 4, 3) := by decide +kernel
theorem dX5_orderNumber_41 : decode cX5_orderNumber 41 = .ok (.iconst 0, 1) := by decide +kernel
theorem dX5_orderNumber_42 : decode cX5_orderNumber 42 = .ok (.iadd, 1) := by decide +kernel
theorem dX5_orderNumber_43 : decode cX5_orderNumber 43 = .ok (.ireturn, 1) := by decide +kernel
theorem dX5_order_0 : decode cX5_order 0 = .ok (.aload_n 0, 1) := by decide +kernel
theorem dX5_order_1 : decode cX5_order 1 = .ok (.iload_n 1, 1) := by decide +kernel
theorem dX5_order_2 : decode cX5_order 2 = .ok (.invokevirtual 101, 3) := by decide +kernel
theorem dX5_order_5 : decode cX5_order 5 = .ok (.ifCond .ne 9, 3) := by decide +kernel
theorem dX5_order_8 : decode cX5_order 8 = .ok (.aload_n 0, 1) := by decide +kernel
theorem dX5_order_9 : decode cX5_order 9 = .ok (.iconst 1, 1) := by decide +kernel
theorem dX5_order_10 : decode cX5_order 10 = .ok (.invokevirtual 44, 3) := by decide +kernel
theorem dX5_order_13 : decode cX5_order 13 = .ok (.ireturn, 1) := by decide +kernel
theorem dX5_order_14 : decode cX5_order 14 = .ok (.iload_n 2, 1) := by decide +kernel
theorem dX5_order_15 : decode cX5_order 15 = .ok (.iconst 0, 1) := by decide +kernel
theorem dX5_order_16 : decode cX5_order 16 = .ok (.iconst 5, 1) := by decide +kernel
theorem dX5_order_17 : decode cX5_order 17 = .ok (.invokestatic 33, 3) := by decide +kernel
theorem dX5_order_20 : decode cX5_order 20 = .ok (.ifCond .eq 16, 3) := by decide +kernel
theorem dX5_order_23 : decode cX5_order 23 = .ok (.aload_n 0, 1) := by decide +kernel
theorem dX5_order_24 : decode cX5_order 24 = .ok (.aload_n 0, 1) := by decide +kernel
theorem dX5_order_25 : decode cX5_order 25 = .ok (.iload_n 1, 1) := by decide +kernel
theorem dX5_order_26 : decode cX5_order 26 = .ok (.iload_n 2, 1) := by decide +kernel
theorem dX5_order_27 : decode cX5_order 27 = .ok (.invokevirtual 119, 3) := by decide +kernel
theorem dX5_order_30 : decode cX5_order 30 = .ok (.invokevirtual 54, 3) := by decide +kernel
theorem dX5_order_33 : decode cX5_order 33 = .ok (.goto 8, 3) := by decide +kernel
theorem dX5_order_36 : decode cX5_order 36 = .ok (.aload_n 0, 1) := by decide +kernel
theorem dX5_order_37 : decode cX5_order 37 = .ok (.iconst 2, 1) := by decide +kernel
theorem dX5_order_38 : decode cX5_order 38 = .ok (.invokevirtual 44, 3) := by decide +kernel
theorem dX5_order_41 : decode cX5_order 41 = .ok (.ireturn, 1) := by decide +kernel
theorem dX5_shipNumber_0 : decode cX5_shipNumber 0 = .ok (.iload_n 2, 1) := by decide +kernel
theorem dX5_shipNumber_1 : decode cX5_shipNumber 1 = .ok (.tableswitch 95 0 4 #[35, 42, 49, 56, 88], 35) := by decide +kernel
theorem dX5_shipNumber_36 : decode cX5_shipNumber 36 = .ok (.aload_n 0, 1) := by decide +kernel
theorem dX5_shipNumber_37 : decode cX5_shipNumber 37 = .ok (.iload_n 1, 1) := by decide +kernel
theorem dX5_shipNumber_38 : decode cX5_shipNumber 38 = .ok (.iconst 0, 1) := by decide +kernel
theorem dX5_shipNumber_39 : decode cX5_shipNumber 39 = .ok (.invokevirtual 57, 3) := by decide +kernel
theorem dX5_shipNumber_42 : decode cX5_shipNumber 42 = .ok (.ireturn, 1) := by decide +kernel
theorem dX5_shipNumber_43 : decode cX5_shipNumber 43 = .ok (.aload_n 0, 1) := by decide +kernel
theorem dX5_shipNumber_44 : decode cX5_shipNumber 44 = .ok (.iload_n 1, 1) := by decide +kernel
theorem dX5_shipNumber_45 : decode cX5_shipNumber 45 = .ok (.iconst 4, 1) := by decide +kernel
theorem dX5_shipNumber_46 : decode cX5_shipNumber 46 = .ok (.invokevirtual 57, 3) := by decide +kernel
theorem dX5_shipNumber_49 : decode cX5_shipNumber 49 = .ok (.ireturn, 1) := by decide +kernel
theorem dX5_shipNumber_50 : decode cX5_shipNumber 50 = .ok (.aload_n 0, 1) := by decide +kernel
theorem dX5_shipNumber_51 : decode cX5_shipNumber 51 = .ok (.iload_n 1, 1) := by decide +kernel
theorem dX5_shipNumber_52 : decode cX5_shipNumber 52 = .ok (.iconst 1, 1) := by decide +kernel
theorem dX5_shipNumber_53 : decode cX5_shipNumber 53 = .ok (.invokevirtual 57, 3) := by decide +kernel
theorem dX5_shipNumber_56 : decode cX5_shipNumber 56 = .ok (.ireturn, 1) := by decide +kernel
theorem dX5_shipNumber_57 : decode cX5_shipNumber 57 = .ok (.iconst 0, 1) := by decide +kernel
theorem dX5_shipNumber_58 : decode cX5_shipNumber 58 = .ok (.istore_n 3, 1) := by decide +kernel
theorem dX5_shipNumber_59 : decode cX5_shipNumber 59 = .ok (.iconst 0, 1) := by decide +kernel
theorem dX5_shipNumber_60 : decode cX5_shipNumber 60 = .ok (.istore 4, 2) := by decide +kernel
theorem dX5_shipNumber_62 : decode cX5_shipNumber 62 = .ok (.iload 4, 2) := by decide +kernel
theorem dX5_shipNumber_64 : decode cX5_shipNumber 64 = .ok (.bipush 8, 2) := by decide +kernel
theorem dX5_shipNumber_66 : decode cX5_shipNumber 66 = .ok (.if_icmp .ge 21, 3) := by decide +kernel
theorem dX5_shipNumber_69 : decode cX5_shipNumber 69 = .ok (.iload_n 3, 1) := by decide +kernel
theorem dX5_shipNumber_70 : decode cX5_shipNumber 70 = .ok (.aload_n 0, 1) := by decide +kernel
theorem dX5_shipNumber_71 : decode cX5_shipNumber 71 = .ok (.iload_n 1, 1) := by decide +kernel
theorem dX5_shipNumber_72 : decode cX5_shipNumber 72 = .ok (.iconst 5, 1) := by decide +kernel
theorem dX5_shipNumber_73 : decode cX5_shipNumber 73 = .ok (.iload 4, 2) := by decide +kernel
theorem dX5_shipNumber_75 : decode cX5_shipNumber 75 = .ok (.iadd, 1) := by decide +kernel
theorem dX5_shipNumber_76 : decode cX5_shipNumber 76 = .ok (.invokevirtual 57, 3) := by decide +kernel
theorem dX5_shipNumber_79 : decode cX5_shipNumber 79 = .ok (.iadd, 1) := by decide +kernel
theorem dX5_shipNumber_80 : decode cX5_shipNumber 80 = .ok (.istore_n 3, 1) := by decide +kernel
theorem dX5_shipNumber_81 : decode cX5_shipNumber 81 = .ok (.iinc 4 1, 3) := by decide +kernel
theorem dX5_shipNumber_84 : decode cX5_shipNumber 84 = .ok (.goto (-22), 3) := by decide +kernel
theorem dX5_shipNumber_87 : decode cX5_shipNumber 87 = .ok (.iload_n 3, 1) := by decide +kernel
theorem dX5_shipNumber_88 : decode cX5_shipNumber 88 = .ok (.ireturn, 1) := by decide +kernel
theorem dX5_shipNumber_89 : decode cX5_shipNumber 89 = .ok (.aload_n 0, 1) := by decide +kernel
theorem dX5_shipNumber_90 : decode cX5_shipNumber 90 = .ok (.iload_n 1, 1) := by decide +kernel
theorem dX5_shipNumber_91 : decode cX5_shipNumber 91 = .ok (.iconst 2, 1) := by decide +kernel
theorem dX5_shipNumber_92 : decode cX5_shipNumber 92 = .ok (.invokevirtual 57, 3) := by decide +kernel
theorem dX5_shipNumber_95 : decode cX5_shipNumber 95 = .ok (.ireturn, 1) := by decide +kernel
theorem dX5_shipNumber_96 : decode cX5_shipNumber 96 = .ok (.aload_n 0, 1) := by decide +kernel
theorem dX5_shipNumber_97 : decode cX5_shipNumber 97 = .ok (.iload_n 1, 1) := by decide +kernel
theorem dX5_shipNumber_98 : decode cX5_shipNumber 98 = .ok (.iconst 3, 1) := by decide +kernel
theorem dX5_shipNumber_99 : decode cX5_shipNumber 99 = .ok (.invokevirtual 57, 3) := by decide +kernel
theorem dX5_shipNumber_102 : decode cX5_shipNumber 102 = .ok (.ireturn, 1) := by decide +kernel
theorem dX5_ship_0 : decode cX5_ship 0 = .ok (.iload_n 1, 1) := by decide +kernel
theorem dX5_ship_1 : decode cX5_ship 1 = .ok (.invokestatic 75, 3) := by decide +kernel
theorem dX5_ship_4 : decode cX5_ship 4 = .ok (.ifCond .ne 9, 3) := by decide +kernel
theorem dX5_ship_7 : decode cX5_ship 7 = .ok (.aload_n 0, 1) := by decide +kernel
theorem dX5_ship_8 : decode cX5_ship 8 = .ok (.iconst 1, 1) := by decide +kernel
theorem dX5_ship_9 : decode cX5_ship 9 = .ok (.invokevirtual 44, 3) := by decide +kernel
theorem dX5_ship_12 : decode cX5_ship 12 = .ok (.ireturn, 1) := by decide +kernel
theorem dX5_ship_13 : decode cX5_ship 13 = .ok (.iload_n 2, 1) := by decide +kernel
theorem dX5_ship_14 : decode cX5_ship 14 = .ok (.iconst 0, 1) := by decide +kernel
theorem dX5_ship_15 : decode cX5_ship 15 = .ok (.iconst 5, 1) := by decide +kernel
theorem dX5_ship_16 : decode cX5_ship 16 = .ok (.invokestatic 33, 3) := by decide +kernel
theorem dX5_ship_19 : decode cX5_ship 19 = .ok (.ifCond .eq 16, 3) := by decide +kernel
theorem dX5_ship_22 : decode cX5_ship 22 = .ok (.aload_n 0, 1) := by decide +kernel
theorem dX5_ship_23 : decode cX5_ship 23 = .ok (.aload_n 0, 1) := by decide +kernel
theorem dX5_ship_24 : decode cX5_ship 24 = .ok (.iload_n 1, 1) := by decide +kernel
theorem dX5_ship_25 : decode cX5_ship 25 = .ok (.iload_n 2, 1) := by decide +kernel
theorem dX5_ship_26 : decode cX5_ship 26 = .ok (.invokevirtual 122, 3) := by decide +kernel
theorem dX5_ship_29 : decode cX5_ship 29 = .ok (.invokevirtual 54, 3) := by decide +kernel
theorem dX5_ship_32 : decode cX5_ship 32 = .ok (.goto 8, 3) := by decide +kernel
theorem dX5_ship_35 : decode cX5_ship 35 = .ok (.aload_n 0, 1) := by decide +kernel
theorem dX5_ship_36 : decode cX5_ship 36 = .ok (.iconst 2, 1) := by decide +kernel
theorem dX5_ship_37 : decode cX5_ship 37 = .ok (.invokevirtual 44, 3) := by decide +kernel
theorem dX5_ship_40 : decode cX5_ship 40 = .ok (.ireturn, 1) := by decide +kernel
theorem dX5_hold_0 : decode cX5_hold 0 = .ok (.iload_n 1, 1) := by decide +kernel
theorem dX5_hold_1 : decode cX5_hold 1 = .ok (.invokestatic 75, 3) := by decide +kernel
theorem dX5_hold_4 : decode cX5_hold 4 = .ok (.ifCond .eq 28, 3) := by decide +kernel
theorem dX5_hold_7 : decode cX5_hold 7 = .ok (.iload_n 2, 1) := by decide +kernel
theorem dX5_hold_8 : decode cX5_hold 8 = .ok (.iconst 0, 1) := by decide +kernel
theorem dX5_hold_9 : decode cX5_hold 9 = .ok (.bipush 7, 2) := by decide +kernel
theorem dX5_hold_11 : decode cX5_hold 11 = .ok (.invokestatic 33, 3) := by decide +kernel
theorem dX5_hold_14 : decode cX5_hold 14 = .ok (.ifCond .eq 18, 3) := by decide +kernel
theorem dX5_hold_17 : decode cX5_hold 17 = .ok (.aload_n 0, 1) := by decide +kernel
theorem dX5_hold_18 : decode cX5_hold 18 = .ok (.aload_n 0, 1) := by decide +kernel
theorem dX5_hold_19 : decode cX5_hold 19 = .ok (.iload_n 1, 1) := by decide +kernel
theorem dX5_hold_20 : decode cX5_hold 20 = .ok (.iconst 5, 1) := by decide +kernel
theorem dX5_hold_21 : decode cX5_hold 21 = .ok (.iload_n 2, 1) := by decide +kernel
theorem dX5_hold_22 : decode cX5_hold 22 = .ok (.iadd, 1) := by decide +kernel
theorem dX5_hold_23 : decode cX5_hold 23 = .ok (.invokevirtual 57, 3) := by decide +kernel
theorem dX5_hold_26 : decode cX5_hold 26 = .ok (.invokevirtual 54, 3) := by decide +kernel
theorem dX5_hold_29 : decode cX5_hold 29 = .ok (.goto 8, 3) := by decide +kernel
theorem dX5_hold_32 : decode cX5_hold 32 = .ok (.aload_n 0, 1) := by decide +kernel
theorem dX5_hold_33 : decode cX5_hold 33 = .ok (.iconst 1, 1) := by decide +kernel
theorem dX5_hold_34 : decode cX5_hold 34 = .ok (.invokevirtual 44, 3) := by decide +kernel
theorem dX5_hold_37 : decode cX5_hold 37 = .ok (.ireturn, 1) := by decide +kernel
theorem dX5_spoiled_0 : decode cX5_spoiled 0 = .ok (.iconst 0, 1) := by decide +kernel
theorem dX5_spoiled_1 : decode cX5_spoiled 1 = .ok (.istore_n 2, 1) := by decide +kernel
theorem dX5_spoiled_2 : decode cX5_spoiled 2 = .ok (.aload_n 0, 1) := by decide +kernel
theorem dX5_spoiled_3 : decode cX5_spoiled 3 = .ok (.getfield 7, 3) := by decide +kernel
theorem dX5_spoiled_6 : decode cX5_spoiled 6 = .ok (.iconst 1, 1) := by decide +kernel
theorem dX5_spoiled_7 : decode cX5_spoiled 7 = .ok (.iaload, 1) := by decide +kernel
theorem dX5_spoiled_8 : decode cX5_spoiled 8 = .ok (.istore_n 3, 1) := by decide +kernel
theorem dX5_spoiled_9 : decode cX5_spoiled 9 = .ok (.iload_n 3, 1) := by decide +kernel
theorem dX5_spoiled_10 : decode cX5_spoiled 10 = .ok (.aload_n 0, 1) := by decide +kernel
theorem dX5_spoiled_11 : decode cX5_spoiled 11 = .ok (.getfield 7, 3) := by decide +kernel
theorem dX5_spoiled_14 : decode cX5_spoiled 14 = .ok (.iconst 2, 1) := by decide +kernel
theorem dX5_spoiled_15 : decode cX5_spoiled 15 = .ok (.iaload, 1) := by decide +kernel
theorem dX5_spoiled_16 : decode cX5_spoiled 16 = .ok (.if_icmp .ge 41, 3) := by decide +kernel
theorem dX5_spoiled_19 : decode cX5_spoiled 19 = .ok (.iload_n 2, 1) := by decide +kernel
theorem dX5_spoiled_20 : decode cX5_spoiled 20 = .ok (.iload_n 1, 1) := by decide +kernel
theorem dX5_spoiled_21 : decode cX5_spoiled 21 = .ok (.ifCond .eq 19, 3) := by decide +kernel
theorem dX5_spoiled_24 : decode cX5_spoiled 24 = .ok (.aload_n 0, 1) := by decide +kernel
theorem dX5_spoiled_25 : decode cX5_spoiled 25 = .ok (.iload_n 3, 1) := by decide +kernel
theorem dX5_spoiled_26 : decode cX5_spoiled 26 = .ok (.invokevirtual 60, 3) := by decide +kernel
theorem dX5_spoiled_29 : decode cX5_spoiled 29 = .ok (.ifCond .eq 7, 3) := by decide +kernel
theorem dX5_spoiled_32 : decode cX5_spoiled 32 = .ok (.iconst 0, 1) := by decide +kernel
theorem dX5_spoiled_33 : decode cX5_spoiled 33 = .ok (.goto 16, 3) := by decide +kernel
theorem dX5_spoiled_36 : decode cX5_spoiled 36 = .ok (.iconst 1, 1) := by decide +kernel
theorem dX5_spoiled_37 : decode cX5_spoiled 37 = .ok (.goto 12, 3) := by decide +kernel
theorem dX5_spoiled_40 : decode cX5_spoiled 40 = .ok (.aload_n 0, 1) := by decide +kernel
theorem dX5_spoiled_41 : decode cX5_spoiled 41 = .ok (.iload_n 3, 1) := by decide +kernel
theorem dX5_spoiled_42 : decode cX5_spoiled 42 = .ok (.iconst 4, 1) := by decide +kernel
theorem dX5_spoiled_43 : decode cX5_spoiled 43 = .ok (.invokevirtual 37, 3) := by decide +kernel
theorem dX5_spoiled_46 : decode cX5_spoiled 46 = .ok (.invokestatic 104, 3) := by decide +kernel
theorem dX5_spoiled_49 : decode cX5_spoiled 49 = .ok (.iadd, 1) := by decide +kernel
theorem dX5_spoiled_50 : decode cX5_spoiled 50 = .ok (.istore_n 2, 1) := by decide +kernel
theorem dX5_spoiled_51 : decode cX5_spoiled 51 = .ok (.iinc 3 1, 3) := by decide +kernel
theorem dX5_spoiled_54 : decode cX5_spoiled 54 = .ok (.goto (-45), 3) := by decide +kernel
theorem dX5_spoiled_57 : decode cX5_spoiled 57 = .ok (.iload_n 2, 1) := by decide +kernel
theorem dX5_spoiled_58 : decode cX5_spoiled 58 = .ok (.ireturn, 1) := by decide +kernel
theorem dX5_number_0 : decode cX5_number 0 = .ok (.iload_n 1, 1) := by decide +kernel
theorem dX5_number_1 : decode cX5_number 1 = .ok (.tableswitch 63 0 5 #[39, 39, 39, 46, 51, 57], 39) := by decide +kernel
theorem dX5_number_40 : decode cX5_number 40 = .ok (.aload_n 0, 1) := by decide +kernel
theorem dX5_number_41 : decode cX5_number 41 = .ok (.getfield 7, 3) := by decide +kernel
theorem dX5_number_44 : decode cX5_number 44 = .ok (.iload_n 1, 1) := by decide +kernel
theorem dX5_number_45 : decode cX5_number 45 = .ok (.iaload, 1) := by decide +kernel
theorem dX5_number_46 : decode cX5_number 46 = .ok (.ireturn, 1) := by decide +kernel
theorem dX5_number_47 : decode cX5_number 47 = .ok (.aload_n 0, 1) := by decide +kernel
theorem dX5_number_48 : decode cX5_number 48 = .ok (.invokevirtual 67, 3) := by decide +kernel
theorem dX5_number_51 : decode cX5_number 51 = .ok (.ireturn, 1) := by decide +kernel
theorem dX5_number_52 : decode cX5_number 52 = .ok (.aload_n 0, 1) := by decide +kernel
theorem dX5_number_53 : decode cX5_number 53 = .ok (.iconst 0, 1) := by decide +kernel
theorem dX5_number_54 : decode cX5_number 54 = .ok (.invokevirtual 125, 3) := by decide +kernel
theorem dX5_number_57 : decode cX5_number 57 = .ok (.ireturn, 1) := by decide +kernel
theorem dX5_number_58 : decode cX5_number 58 = .ok (.aload_n 0, 1) := by decide +kernel
theorem dX5_number_59 : decode cX5_number 59 = .ok (.iconst 1, 1) := by decide +kernel
theorem dX5_number_60 : decode cX5_number 60 = .ok (.invokevirtual 125, 3) := by decide +kernel
theorem dX5_number_63 : decode cX5_number 63 = .ok (.ireturn, 1) := by decide +kernel
theorem dX5_number_64 : decode cX5_number 64 = .ok (.aload_n 0, 1) := by decide +kernel
theorem dX5_number_65 : decode cX5_number 65 = .ok (.getfield 7, 3) := by decide +kernel
theorem dX5_number_68 : decode cX5_number 68 = .ok (.iconst 3, 1) := by decide +kernel
theorem dX5_number_69 : decode cX5_number 69 = .ok (.iaload, 1) := by decide +kernel
theorem dX5_number_70 : decode cX5_number 70 = .ok (.ireturn, 1) := by decide +kernel
theorem dX5_value_0 : decode cX5_value 0 = .ok (.iload_n 1, 1) := by decide +kernel
theorem dX5_value_1 : decode cX5_value 1 = .ok (.iconst 0, 1) := by decide +kernel
theorem dX5_value_2 : decode cX5_value 2 = .ok (.bipush 6, 2) := by decide +kernel
theorem dX5_value_4 : decode cX5_value 4 = .ok (.invokestatic 33, 3) := by decide +kernel
theorem dX5_value_7 : decode cX5_value 7 = .ok (.ifCond .eq 15, 3) := by decide +kernel
theorem dX5_value_10 : decode cX5_value 10 = .ok (.aload_n 0, 1) := by decide +kernel
theorem dX5_value_11 : decode cX5_value 11 = .ok (.aload_n 0, 1) := by decide +kernel
theorem dX5_value_12 : decode cX5_value 12 = .ok (.iload_n 1, 1) := by decide +kernel
theorem dX5_value_13 : decode cX5_value 13 = .ok (.invokevirtual 129, 3) := by decide +kernel
theorem dX5_value_16 : decode cX5_value 16 = .ok (.invokevirtual 54, 3) := by decide +kernel
theorem dX5_value_19 : decode cX5_value 19 = .ok (.goto 8, 3) := by decide +kernel
theorem dX5_value_22 : decode cX5_value 22 = .ok (.aload_n 0, 1) := by decide +kernel
theorem dX5_value_23 : decode cX5_value 23 = .ok (.iconst 1, 1) := by decide +kernel
theorem dX5_value_24 : decode cX5_value 24 = .ok (.invokevirtual 44, 3) := by decide +kernel
theorem dX5_value_27 : decode cX5_value 27 = .ok (.ireturn, 1) := by decide +kernel
theorem dX5_ahead_0 : decode cX5_ahead 0 = .ok (.iload_n 1, 1) := by decide +kernel
theorem dX5_ahead_1 : decode cX5_ahead 1 = .ok (.invokestatic 75, 3) := by decide +kernel
theorem dX5_ahead_4 : decode cX5_ahead 4 = .ok (.ifCond .eq 15, 3) := by decide +kernel
theorem dX5_ahead_7 : decode cX5_ahead 7 = .ok (.aload_n 0, 1) := by decide +kernel
theorem dX5_ahead_8 : decode cX5_ahead 8 = .ok (.aload_n 0, 1) := by decide +kernel
theorem dX5_ahead_9 : decode cX5_ahead 9 = .ok (.iload_n 1, 1) := by decide +kernel
theorem dX5_ahead_10 : decode cX5_ahead 10 = .ok (.invokevirtual 78, 3) := by decide +kernel
theorem dX5_ahead_13 : decode cX5_ahead 13 = .ok (.invokevirtual 54, 3) := by decide +kernel
theorem dX5_ahead_16 : decode cX5_ahead 16 = .ok (.goto 8, 3) := by decide +kernel
theorem dX5_ahead_19 : decode cX5_ahead 19 = .ok (.aload_n 0, 1) := by decide +kernel
theorem dX5_ahead_20 : decode cX5_ahead 20 = .ok (.iconst 1, 1) := by decide +kernel
theorem dX5_ahead_21 : decode cX5_ahead 21 = .ok (.invokevirtual 44, 3) := by decide +kernel
theorem dX5_ahead_24 : decode cX5_ahead 24 = .ok (.ireturn, 1) := by decide +kernel
theorem dX5_stop_0 : decode cX5_stop 0 = .ok (.iload_n 1, 1) := by decide +kernel
theorem dX5_stop_1 : decode cX5_stop 1 = .ok (.invokestatic 75, 3) := by decide +kernel
theorem dX5_stop_4 : decode cX5_stop 4 = .ok (.ifCond .eq 15, 3) := by decide +kernel
theorem dX5_stop_7 : decode cX5_stop 7 = .ok (.aload_n 0, 1) := by decide +kernel
theorem dX5_stop_8 : decode cX5_stop 8 = .ok (.aload_n 0, 1) := by decide +kernel
theorem dX5_stop_9 : decode cX5_stop 9 = .ok (.iload_n 1, 1) := by decide +kernel
theorem dX5_stop_10 : decode cX5_stop 10 = .ok (.invokevirtual 64, 3) := by decide +kernel
theorem dX5_stop_13 : decode cX5_stop 13 = .ok (.invokevirtual 54, 3) := by decide +kernel
theorem dX5_stop_16 : decode cX5_stop 16 = .ok (.goto 8, 3) := by decide +kernel
theorem dX5_stop_19 : decode cX5_stop 19 = .ok (.aload_n 0, 1) := by decide +kernel
theorem dX5_stop_20 : decode cX5_stop 20 = .ok (.iconst 1, 1) := by decide +kernel
theorem dX5_stop_21 : decode cX5_stop 21 = .ok (.invokevirtual 44, 3) := by decide +kernel
theorem dX5_stop_24 : decode cX5_stop 24 = .ok (.ireturn, 1) := by decide +kernel
theorem dX5_thinks_0 : decode cX5_thinks 0 = .ok (.iconst 1, 1) := by decide +kernel
theorem dX5_thinks_1 : decode cX5_thinks 1 = .ok (.istore_n 3, 1) := by decide +kernel
theorem dX5_thinks_2 : decode cX5_thinks 2 = .ok (.iload_n 1, 1) := by decide +kernel
theorem dX5_thinks_3 : decode cX5_thinks 3 = .ok (.istore 4, 2) := by decide +kernel
theorem dX5_thinks_5 : decode cX5_thinks 5 = .ok (.iload 4, 2) := by decide +kernel
theorem dX5_thinks_7 : decode cX5_thinks 7 = .ok (.iload_n 2, 1) := by decide +kernel
theorem dX5_thinks_8 : decode cX5_thinks 8 = .ok (.if_icmp .ge 39, 3) := by decide +kernel
theorem dX5_thinks_11 : decode cX5_thinks 11 = .ok (.iload_n 3, 1) := by decide +kernel
theorem dX5_thinks_12 : decode cX5_thinks 12 = .ok (.ifCond .eq 16, 3) := by decide +kernel
theorem dX5_thinks_15 : decode cX5_thinks 15 = .ok (.aload_n 0, 1) := by decide +kernel
theorem dX5_thinks_16 : decode cX5_thinks 16 = .ok (.iload 4, 2) := by decide +kernel
theorem dX5_thinks_18 : decode cX5_thinks 18 = .ok (.invokevirtual 60, 3) := by decide +kernel
theorem dX5_thinks_21 : decode cX5_thinks 21 = .ok (.ifCond .eq 7, 3) := by decide +kernel
theorem dX5_thinks_24 : decode cX5_thinks 24 = .ok (.iconst 1, 1) := by decide +kernel
theorem dX5_thinks_25 : decode cX5_thinks 25 = .ok (.goto 4, 3) := by decide +kernel
theorem dX5_thinks_28 : decode cX5_thinks 28 = .ok (.iconst 0, 1) := by decide +kernel
theorem dX5_thinks_29 : decode cX5_thinks 29 = .ok (.istore_n 3, 1) := by decide +kernel
theorem dX5_thinks_30 : decode cX5_thinks 30 = .ok (.aload_n 0, 1) := by decide +kernel
theorem dX5_thinks_31 : decode cX5_thinks 31 = .ok (.aload_n 0, 1) := by decide +kernel
theorem dX5_thinks_32 : decode cX5_thinks 32 = .ok (.getfield 22, 3) := by decide +kernel
theorem dX5_thinks_35 : decode cX5_thinks 35 = .ok (.iconst 0, 1) := by decide +kernel
theorem dX5_thinks_36 : decode cX5_thinks 36 = .ok (.iload 4, 2) := by decide +kernel
theorem dX5_thinks_38 : decode cX5_thinks 38 = .ok (.invokevirtual 81, 3) := by decide +kernel
theorem dX5_thinks_41 : decode cX5_thinks 41 = .ok (.iinc 4 1, 3) := by decide +kernel
theorem dX5_thinks_44 : decode cX5_thinks 44 = .ok (.goto (-39), 3) := by decide +kernel
theorem dX5_thinks_47 : decode cX5_thinks 47 = .ok (.iload_n 3, 1) := by decide +kernel
theorem dX5_thinks_48 : decode cX5_thinks 48 = .ok (.ireturn, 1) := by decide +kernel
theorem dX5_takes_0 : decode cX5_takes 0 = .ok (.iconst 0, 1) := by decide +kernel
theorem dX5_takes_1 : decode cX5_takes 1 = .ok (.istore_n 3, 1) := by decide +kernel
theorem dX5_takes_2 : decode cX5_takes 2 = .ok (.iload_n 3, 1) := by decide +kernel
theorem dX5_takes_3 : decode cX5_takes 3 = .ok (.bipush 8, 2) := by decide +kernel
theorem dX5_takes_5 : decode cX5_takes 5 = .ok (.if_icmp .ge 23, 3) := by decide +kernel
theorem dX5_takes_8 : decode cX5_takes 8 = .ok (.aload_n 0, 1) := by decide +kernel
theorem dX5_takes_9 : decode cX5_takes 9 = .ok (.getfield 22, 3) := by decide +kernel
theorem dX5_takes_12 : decode cX5_takes 12 = .ok (.iload_n 3, 1) := by decide +kernel
theorem dX5_takes_13 : decode cX5_takes 13 = .ok (.aload_n 0, 1) := by decide +kernel
theorem dX5_takes_14 : decode cX5_takes 14 = .ok (.iload_n 1, 1) := by decide +kernel
theorem dX5_takes_15 : decode cX5_takes 15 = .ok (.iload_n 2, 1) := by decide +kernel
theorem dX5_takes_16 : decode cX5_takes 16 = .ok (.iload_n 3, 1) := by decide +kernel
theorem dX5_takes_17 : decode cX5_takes 17 = .ok (.iadd, 1) := by decide +kernel
theorem dX5_takes_18 : decode cX5_takes 18 = .ok (.invokevirtual 57, 3) := by decide +kernel
theorem dX5_takes_21 : decode cX5_takes 21 = .ok (.iastore, 1) := by decide +kernel
theorem dX5_takes_22 : decode cX5_takes 22 = .ok (.iinc 3 1, 3) := by decide +kernel
theorem dX5_takes_25 : decode cX5_takes 25 = .ok (.goto (-23), 3) := by decide +kernel
theorem dX5_takes_28 : decode cX5_takes 28 = .ok (.return_, 1) := by decide +kernel
theorem dX5_slow_0 : decode cX5_slow 0 = .ok (.aload_n 0, 1) := by decide +kernel
theorem dX5_slow_1 : decode cX5_slow 1 = .ok (.iconst 0, 1) := by decide +kernel
theorem dX5_slow_2 : decode cX5_slow 2 = .ok (.iconst 4, 1) := by decide +kernel
theorem dX5_slow_3 : decode cX5_slow 3 = .ok (.invokevirtual 57, 3) := by decide +kernel
theorem dX5_slow_6 : decode cX5_slow 6 = .ok (.aload_n 0, 1) := by decide +kernel
theorem dX5_slow_7 : decode cX5_slow 7 = .ok (.iconst 1, 1) := by decide +kernel
theorem dX5_slow_8 : decode cX5_slow 8 = .ok (.iconst 4, 1) := by decide +kernel
theorem dX5_slow_9 : decode cX5_slow 9 = .ok (.invokevirtual 57, 3) := by decide +kernel
theorem dX5_slow_12 : decode cX5_slow 12 = .ok (.if_icmp .ne 7, 3) := by decide +kernel
theorem dX5_slow_15 : decode cX5_slow 15 = .ok (.iconst 2, 1) := by decide +kernel
theorem dX5_slow_16 : decode cX5_slow 16 = .ok (.goto 23, 3) := by decide +kernel
theorem dX5_slow_19 : decode cX5_slow 19 = .ok (.aload_n 0, 1) := by decide +kernel
theorem dX5_slow_20 : decode cX5_slow 20 = .ok (.iconst 0, 1) := by decide +kernel
theorem dX5_slow_21 : decode cX5_slow 21 = .ok (.iconst 4, 1) := by decide +kernel
theorem dX5_slow_22 : decode cX5_slow 22 = .ok (.invokevirtual 57, 3) := by decide +kernel
theorem dX5_slow_25 : decode cX5_slow 25 = .ok (.aload_n 0, 1) := by decide +kernel
theorem dX5_slow_26 : decode cX5_slow 26 = .ok (.iconst 1, 1) := by decide +kernel
theorem dX5_slow_27 : decode cX5_slow 27 = .ok (.iconst 4, 1) := by decide +kernel
theorem dX5_slow_28 : decode cX5_slow 28 = .ok (.invokevirtual 57, 3) := by decide +kernel
theorem dX5_slow_31 : decode cX5_slow 31 = .ok (.if_icmp .ge 7, 3) := by decide +kernel
theorem dX5_slow_34 : decode cX5_slow 34 = .ok (.iconst 0, 1) := by decide +kernel
theorem dX5_slow_35 : decode cX5_slow 35 = .ok (.goto 4, 3) := by decide +kernel
theorem dX5_slow_38 : decode cX5_slow 38 = .ok (.iconst 1, 1) := by decide +kernel
theorem dX5_slow_39 : decode cX5_slow 39 = .ok (.ireturn, 1) := by decide +kernel
theorem dX5_tons_0 : decode cX5_tons 0 = .ok (.iload_n 1, 1) := by decide +kernel
theorem dX5_tons_1 : decode cX5_tons 1 = .ok (.aload_n 0, 1) := by decide +kernel
theorem dX5_tons_2 : decode cX5_tons 2 = .ok (.invokevirtual 88, 3) := by decide +kernel
theorem dX5_tons_5 : decode cX5_tons 5 = .ok (.aload_n 0, 1) := by decide +kernel
theorem dX5_tons_6 : decode cX5_tons 6 = .ok (.getfield 7, 3) := by decide +kernel
theorem dX5_tons_9 : decode cX5_tons 9 = .ok (.iconst 2, 1) := by decide +kernel
theorem dX5_tons_10 : decode cX5_tons 10 = .ok (.iaload, 1) := by decide +kernel
theorem dX5_tons_11 : decode cX5_tons 11 = .ok (.invokestatic 33, 3) := by decide +kernel
theorem dX5_tons_14 : decode cX5_tons 14 = .ok (.ifCond .ne 5, 3) := by decide +kernel
theorem dX5_tons_17 : decode cX5_tons 17 = .ok (.iconst (-1), 1) := by decide +kernel
theorem dX5_tons_18 : decode cX5_tons 18 = .ok (.ireturn, 1) := by decide +kernel
theorem dX5_tons_19 : decode cX5_tons 19 = .ok (.aload_n 0, 1) := by decide +kernel
theorem dX5_tons_20 : decode cX5_tons 20 = .ok (.aload_n 0, 1) := by decide +kernel
theorem dX5_tons_21 : decode cX5_tons 21 = .ok (.invokevirtual 132, 3) := by decide +kernel
theorem dX5_tons_24 : decode cX5_tons 24 = .ok (.iconst 2, 1) := by decide +kernel
theorem dX5_tons_25 : decode cX5_tons 25 = .ok (.irem, 1) := by decide +kernel
theorem dX5_tons_26 : decode cX5_tons 26 = .ok (.bipush 13, 2) := by decide +kernel
theorem dX5_tons_28 : decode cX5_tons 28 = .ok (.invokevirtual 135, 3) := by decide +kernel
theorem dX5_tons_31 : decode cX5_tons 31 = .ok (.aload_n 0, 1) := by decide +kernel
theorem dX5_tons_32 : decode cX5_tons 32 = .ok (.aload_n 0, 1) := by decide +kernel
theorem dX5_tons_33 : decode cX5_tons 33 = .ok (.invokevirtual 88, 3) := by decide +kernel
theorem dX5_tons_36 : decode cX5_tons 36 = .ok (.iload_n 1, 1) := by decide +kernel
theorem dX5_tons_37 : decode cX5_tons 37 = .ok (.invokevirtual 139, 3) := by decide +kernel
theorem dX5_tons_40 : decode cX5_tons 40 = .ok (.ifCond .eq 12, 3) := by decide +kernel
theorem dX5_tons_43 : decode cX5_tons 43 = .ok (.aload_n 0, 1) := by decide +kernel
theorem dX5_tons_44 : decode cX5_tons 44 = .ok (.getfield 22, 3) := by decide +kernel
theorem dX5_tons_47 : decode cX5_tons 47 = .ok (.iload_n 2, 1) := by decide +kernel
theorem dX5_tons_48 : decode cX5_tons 48 = .ok (.iaload, 1) := by decide +kernel
theorem dX5_tons_49 : decode cX5_tons 49 = .ok (.goto 4, 3) := by decide +kernel
theorem dX5_tons_52 : decode cX5_tons 52 = .ok (.iconst (-1), 1) := by decide +kernel
theorem dX5_tons_53 : decode cX5_tons 53 = .ok (.ireturn, 1) := by decide +kernel
theorem dX5_tonsAt_0 : decode cX5_tonsAt 0 = .ok (.iload_n 2, 1) := by decide +kernel
theorem dX5_tonsAt_1 : decode cX5_tonsAt 1 = .ok (.iconst 0, 1) := by decide +kernel
theorem dX5_tonsAt_2 : decode cX5_tonsAt 2 = .ok (.bipush 7, 2) := by decide +kernel
theorem dX5_tonsAt_4 : decode cX5_tonsAt 4 = .ok (.invokestatic 33, 3) := by decide +kernel
theorem dX5_tonsAt_7 : decode cX5_tonsAt 7 = .ok (.ifCond .eq 16, 3) := by decide +kernel
theorem dX5_tonsAt_10 : decode cX5_tonsAt 10 = .ok (.aload_n 0, 1) := by decide +kernel
theorem dX5_tonsAt_11 : decode cX5_tonsAt 11 = .ok (.aload_n 0, 1) := by decide +kernel
theorem dX5_tonsAt_12 : decode cX5_tonsAt 12 = .ok (.iload_n 1, 1) := by decide +kernel
theorem dX5_tonsAt_13 : decode cX5_tonsAt 13 = .ok (.iload_n 2, 1) := by decide +kernel
theorem dX5_tonsAt_14 : decode cX5_tonsAt 14 = .ok (.invokevirtual 143, 3) := by decide +kernel
theorem dX5_tonsAt_17 : decode cX5_tonsAt 17 = .ok (.invokevirtual 54, 3) := by decide +kernel
theorem dX5_tonsAt_20 : decode cX5_tonsAt 20 = .ok (.goto 8, 3) := by decide +kernel
theorem dX5_tonsAt_23 : decode cX5_tonsAt 23 = .ok (.aload_n 0, 1) := by decide +kernel
theorem dX5_tonsAt_24 : decode cX5_tonsAt 24 = .ok (.iconst 1, 1) := by decide +kernel
theorem dX5_tonsAt_25 : decode cX5_tonsAt 25 = .ok (.invokevirtual 44, 3) := by decide +kernel
theorem dX5_tonsAt_28 : decode cX5_tonsAt 28 = .ok (.ireturn, 1) := by decide +kernel
