/-! the methods and what their pools say, printed by wip/whole/gen25.py -/
def mtI_0 : jMe := (0, yX0_init, cX0_init, 1, none, 1, [])
theorem mt_0 : j_mt[0]? = some mtI_0 := rfl
def mtI_1 : jMe := (0, yX0_slot, cX0_slot, 1, (some .int), 1, [])
theorem mt_1 : j_mt[1]? = some mtI_1 := rfl
def mtI_2 : jMe := (0, yX0_restart, cX0_restart, 2, none, 2, [])
theorem mt_2 : j_mt[2]? = some mtI_2 := rfl
def mtI_3 : jMe := (0, yX0_copyFrom, cX0_copyFrom, 2, none, 2, [])
theorem mt_3 : j_mt[3]? = some mtI_3 := rfl
def mtI_4 : jMe := (0, yX0_kept, cX0_kept, 1, (some .int), 1, [])
theorem mt_4 : j_mt[4]? = some mtI_4 := rfl
def mtI_5 : jMe := (0, yX0_isFull, cX0_isFull, 1, (some .boolean), 1, [])
theorem mt_5 : j_mt[5]? = some mtI_5 := rfl
def mtI_6 : jMe := (0, yX0_isKept, cX0_isKept, 2, (some .boolean), 2, [])
theorem mt_6 : j_mt[6]? = some mtI_6 := rfl
def mtI_7 : jMe := (0, yX0_add, cX0_add, 7, (some .int), 5, [])
theorem mt_7 : j_mt[7]? = some mtI_7 := rfl
def mtI_8 : jMe := (0, yX0_kindAt, cX0_kindAt, 2, (some .int), 2, [])
theorem mt_8 : j_mt[8]? = some mtI_8 := rfl
def mtI_9 : jMe := (0, yX0_holdAAt, cX0_holdAAt, 2, (some .int), 2, [])
theorem mt_9 : j_mt[9]? = some mtI_9 := rfl
def mtI_10 : jMe := (0, yX0_holdBAt, cX0_holdBAt, 2, (some .int), 2, [])
theorem mt_10 : j_mt[10]? = some mtI_10 := rfl
def mtI_11 : jMe := (0, yX0_amountAt, cX0_amountAt, 2, (some .int), 2, [])
theorem mt_11 : j_mt[11]? = some mtI_11 := rfl
def mtI_12 : jMe := (0, yX0_spoiledAt, cX0_spoiledAt, 2, (some .int), 2, [])
theorem mt_12 : j_mt[12]? = some mtI_12 := rfl
def mtI_13 : jMe := (0, yX0_canBeRead, cX0_canBeRead, 2, (some .boolean), 2, [])
theorem mt_13 : j_mt[13]? = some mtI_13 := rfl
def mtI_14 : jMe := (0, yX0_spoilCopy, cX0_spoilCopy, 4, (some .int), 3, [])
theorem mt_14 : j_mt[14]? = some mtI_14 := rfl
def mtI_15 : jMe := (0, yX0_repairOrder, cX0_repairOrder, 4, (some .int), 2, [])
theorem mt_15 : j_mt[15]? = some mtI_15 := rfl
def mtI_16 : jMe := (0, yX0_spoiledCopies, cX0_spoiledCopies, 3, (some .int), 1, [])
theorem mt_16 : j_mt[16]? = some mtI_16 := rfl
def mtI_17 : jMe := (0, yX0_unreadableOrders, cX0_unreadableOrders, 3, (some .int), 1, [])
theorem mt_17 : j_mt[17]? = some mtI_17 := rfl
def mtI_18 : jMe := (0, yX0_firstUnreadable, cX0_firstUnreadable, 3, (some .int), 2, [])
theorem mt_18 : j_mt[18]? = some mtI_18 := rfl
def mtI_19 : jMe := (0, yX0_replayOn, cX0_replayOn, 5, (some .boolean), 4, [])
theorem mt_19 : j_mt[19]? = some mtI_19 := rfl
def mtI_20 : jMe := (0, yX0_replayOne, cX0_replayOne, 7, none, 3, [])
theorem mt_20 : j_mt[20]? = some mtI_20 := rfl
def mtI_21 : jMe := (0, yX0_moveTons, cX0_moveTons, 5, none, 4, [])
theorem mt_21 : j_mt[21]? = some mtI_21 := rfl
def mtI_22 : jMe := (0, yX0_swapTons, cX0_swapTons, 4, none, 3, [])
theorem mt_22 : j_mt[22]? = some mtI_22 := rfl
def mtI_23 : jMe := (0, yX0_levelTons, cX0_levelTons, 4, none, 3, [])
theorem mt_23 : j_mt[23]? = some mtI_23 := rfl
def mtI_24 : jMe := (1, yX1_init, cX1_init, 1, none, 1, [])
theorem mt_24 : j_mt[24]? = some mtI_24 := rfl
def mtI_25 : jMe := (1, yX1_restart, cX1_restart, 2, none, 1, [])
theorem mt_25 : j_mt[25]? = some mtI_25 := rfl
def mtI_26 : jMe := (1, yX1_copyFrom, cX1_copyFrom, 2, none, 2, [])
theorem mt_26 : j_mt[26]? = some mtI_26 := rfl
def mtI_27 : jMe := (1, yX1_keepSnapshot, cX1_keepSnapshot, 1, none, 1, [])
theorem mt_27 : j_mt[27]? = some mtI_27 := rfl
def mtI_28 : jMe := (1, yX1_fallBack, cX1_fallBack, 2, (some .int), 1, [])
theorem mt_28 : j_mt[28]? = some mtI_28 := rfl
def mtI_29 : jMe := (1, yX1_sumOfTons, cX1_sumOfTons, 3, (some .int), 1, [])
theorem mt_29 : j_mt[29]? = some mtI_29 := rfl
def mtI_30 : jMe := (1, yX1_hasHolds, cX1_hasHolds, 3, (some .boolean), 2, [])
theorem mt_30 : j_mt[30]? = some mtI_30 := rfl
def mtI_31 : jMe := (2, yX2_init, cX2_init, 1, none, 1, [])
theorem mt_31 : j_mt[31]? = some mtI_31 := rfl
def mtI_32 : jMe := (2, yX2_restart, cX2_restart, 2, none, 2, [])
theorem mt_32 : j_mt[32]? = some mtI_32 := rfl
def mtI_33 : jMe := (2, yX2_copyFrom, cX2_copyFrom, 2, none, 2, [])
theorem mt_33 : j_mt[33]? = some mtI_33 := rfl
def mtI_34 : jMe := (2, yX2_shipOf, cX2_shipOf, 2, (some (.object "ShipJournal$Ship")), 2, [])
theorem mt_34 : j_mt[34]? = some mtI_34 := rfl
def mtI_35 : jMe := (2, yX2_otherThan, cX2_otherThan, 2, (some (.object "ShipJournal$Ship")), 2, [])
theorem mt_35 : j_mt[35]? = some mtI_35 := rfl
def mtI_36 : jMe := (2, yX2_shipBehind, cX2_shipBehind, 1, (some (.object "ShipJournal$Ship")), 1, [])
theorem mt_36 : j_mt[36]? = some mtI_36 := rfl
def mtI_37 : jMe := (2, yX2_slowerSnapshot, cX2_slowerSnapshot, 1, (some (.object "ShipJournal$Ship")), 1, [])
theorem mt_37 : j_mt[37]? = some mtI_37 := rfl
def mtI_38 : jMe := (2, yX2_linksUp, cX2_linksUp, 1, (some .int), 1, [])
theorem mt_38 : j_mt[38]? = some mtI_38 := rfl
def mtI_39 : jMe := (2, yX2_replayedBy, cX2_replayedBy, 2, (some .int), 2, [])
theorem mt_39 : j_mt[39]? = some mtI_39 := rfl
def mtI_40 : jMe := (2, yX2_replayOrders, cX2_replayOrders, 4, (some .int), 3, [])
theorem mt_40 : j_mt[40]? = some mtI_40 := rfl
def mtI_41 : jMe := (2, yX2_canReplay, cX2_canReplay, 2, (some .boolean), 2, [])
theorem mt_41 : j_mt[41]? = some mtI_41 := rfl
def mtI_42 : jMe := (2, yX2_takeSnapshot, cX2_takeSnapshot, 3, (some .int), 2, [])
theorem mt_42 : j_mt[42]? = some mtI_42 := rfl
def mtI_43 : jMe := (2, yX2_repairCopies, cX2_repairCopies, 3, (some .int), 1, [])
theorem mt_43 : j_mt[43]? = some mtI_43 := rfl
def mtI_44 : jMe := (2, yX2_canRepair, cX2_canRepair, 2, (some .boolean), 2, [])
theorem mt_44 : j_mt[44]? = some mtI_44 := rfl
def mtI_45 : jMe := (2, yX2_knowsOrder, cX2_knowsOrder, 2, (some .boolean), 2, [])
theorem mt_45 : j_mt[45]? = some mtI_45 := rfl
def mtI_46 : jMe := (3, yX3_init, cX3_init, 1, none, 1, [])
theorem mt_46 : j_mt[46]? = some mtI_46 := rfl
def mtI_47 : jMe := (3, yX3_isFull, cX3_isFull, 1, (some .boolean), 1, [])
theorem mt_47 : j_mt[47]? = some mtI_47 := rfl
def mtI_48 : jMe := (3, yX3_add, cX3_add, 2, (some .int), 2, [])
theorem mt_48 : j_mt[48]? = some mtI_48 := rfl
def mtI_49 : jMe := (3, yX3_clear, cX3_clear, 2, (some .int), 1, [])
theorem mt_49 : j_mt[49]? = some mtI_49 := rfl
def mtI_50 : jMe := (3, yX3_byteAt, cX3_byteAt, 2, (some .int), 2, [])
theorem mt_50 : j_mt[50]? = some mtI_50 := rfl
def mtI_51 : jMe := (3, yX3_goToStart, cX3_goToStart, 1, none, 1, [])
theorem mt_51 : j_mt[51]? = some mtI_51 := rfl
def mtI_52 : jMe := (3, yX3_isAtEnd, cX3_isAtEnd, 1, (some .boolean), 1, [])
theorem mt_52 : j_mt[52]? = some mtI_52 := rfl
def mtI_53 : jMe := (3, yX3_findSyntaxError, cX3_findSyntaxError, 2, (some .int), 1, [])
theorem mt_53 : j_mt[53]? = some mtI_53 := rfl
def mtI_54 : jMe := (3, yX3_readCommand, cX3_readCommand, 1, (some .boolean), 1, [])
theorem mt_54 : j_mt[54]? = some mtI_54 := rfl
def mtI_55 : jMe := (3, yX3_readSign, cX3_readSign, 2, (some .boolean), 2, [])
theorem mt_55 : j_mt[55]? = some mtI_55 := rfl
def mtI_56 : jMe := (3, yX3_readFirst, cX3_readFirst, 2, (some .boolean), 2, [])
theorem mt_56 : j_mt[56]? = some mtI_56 := rfl
def mtI_57 : jMe := (3, yX3_readSecond, cX3_readSecond, 2, (some .boolean), 2, [])
theorem mt_57 : j_mt[57]? = some mtI_57 := rfl
def mtI_58 : jMe := (3, yX3_readDigit, cX3_readDigit, 3, (some .int), 2, [])
theorem mt_58 : j_mt[58]? = some mtI_58 := rfl
def mtI_59 : jMe := (3, yX3_readNumber, cX3_readNumber, 3, (some .boolean), 1, [])
theorem mt_59 : j_mt[59]? = some mtI_59 := rfl
def mtI_60 : jMe := (3, yX3_isDigit, cX3_isDigit, 1, (some .boolean), 1, [])
theorem mt_60 : j_mt[60]? = some mtI_60 := rfl
def mtI_61 : jMe := (4, yX4_init, cX4_init, 2, none, 1, [])
theorem mt_61 : j_mt[61]? = some mtI_61 := rfl
def mtI_62 : jMe := (4, yX4_begin, cX4_begin, 3, (some .int), 2, [])
theorem mt_62 : j_mt[62]? = some mtI_62 := rfl
def mtI_63 : jMe := (4, yX4_write, cX4_write, 5, (some .int), 5, [])
theorem mt_63 : j_mt[63]? = some mtI_63 := rfl
def mtI_64 : jMe := (4, yX4_spoil, cX4_spoil, 3, (some .int), 3, [])
theorem mt_64 : j_mt[64]? = some mtI_64 := rfl
def mtI_65 : jMe := (4, yX4_repair, cX4_repair, 1, (some .int), 1, [])
theorem mt_65 : j_mt[65]? = some mtI_65 := rfl
def mtI_66 : jMe := (4, yX4_replay, cX4_replay, 3, (some .int), 3, [])
theorem mt_66 : j_mt[66]? = some mtI_66 := rfl
def mtI_67 : jMe := (4, yX4_snapshot, cX4_snapshot, 2, (some .int), 2, [])
theorem mt_67 : j_mt[67]? = some mtI_67 := rfl
def mtI_68 : jMe := (4, yX4_crash, cX4_crash, 2, (some .int), 2, [])
theorem mt_68 : j_mt[68]? = some mtI_68 := rfl
def mtI_69 : jMe := (4, yX4_link, cX4_link, 3, (some .int), 3, [])
theorem mt_69 : j_mt[69]? = some mtI_69 := rfl
def mtI_70 : jMe := (4, yX4_order, cX4_order, 3, (some .int), 3, [])
theorem mt_70 : j_mt[70]? = some mtI_70 := rfl
def mtI_71 : jMe := (4, yX4_ship, cX4_ship, 4, (some .int), 3, [])
theorem mt_71 : j_mt[71]? = some mtI_71 := rfl
def mtI_72 : jMe := (4, yX4_hold, cX4_hold, 3, (some .int), 3, [])
theorem mt_72 : j_mt[72]? = some mtI_72 := rfl
def mtI_73 : jMe := (4, yX4_value, cX4_value, 2, (some .int), 2, [])
theorem mt_73 : j_mt[73]? = some mtI_73 := rfl
def mtI_74 : jMe := (4, yX4_ahead, cX4_ahead, 3, (some .int), 2, [])
theorem mt_74 : j_mt[74]? = some mtI_74 := rfl
def mtI_75 : jMe := (4, yX4_stop, cX4_stop, 2, (some .int), 2, [])
theorem mt_75 : j_mt[75]? = some mtI_75 := rfl
def mtI_76 : jMe := (4, yX4_tonsAt, cX4_tonsAt, 5, (some .int), 3, [])
theorem mt_76 : j_mt[76]? = some mtI_76 := rfl
def mtI_77 : jMe := (4, yX4_agree, cX4_agree, 3, (some .int), 1, [])
theorem mt_77 : j_mt[77]? = some mtI_77 := rfl
def mtI_78 : jMe := (4, yX4_roomBy, cX4_roomBy, 4, (some .int), 2, [])
theorem mt_78 : j_mt[78]? = some mtI_78 := rfl
def mtI_79 : jMe := (4, yX4_slower, cX4_slower, 1, (some .int), 1, [])
theorem mt_79 : j_mt[79]? = some mtI_79 := rfl
def mtI_80 : jMe := (4, yX4_fullness, cX4_fullness, 1, (some .double), 1, [])
theorem mt_80 : j_mt[80]? = some mtI_80 := rfl
def mtI_81 : jMe := (4, yX4_append, cX4_append, 2, (some .int), 2, [])
theorem mt_81 : j_mt[81]? = some mtI_81 := rfl
def mtI_82 : jMe := (4, yX4_clearText, cX4_clearText, 1, (some .int), 1, [])
theorem mt_82 : j_mt[82]? = some mtI_82 := rfl
def mtI_83 : jMe := (4, yX4_carryOut, cX4_carryOut, 3, (some .int), 1, [])
theorem mt_83 : j_mt[83]? = some mtI_83 := rfl
def mtI_84 : jMe := (4, yX4_undo, cX4_undo, 1, (some .int), 1, [])
theorem mt_84 : j_mt[84]? = some mtI_84 := rfl
def mtI_85 : jMe := (4, yX4_digest, cX4_digest, 4, (some .long), 1, [])
theorem mt_85 : j_mt[85]? = some mtI_85 := rfl
def mtI_86 : jMe := (4, yX4_mix, cX4_mix, 4, (some .long), 2, [])
theorem mt_86 : j_mt[86]? = some mtI_86 := rfl
def mtI_87 : jMe := (4, yX4_mixOrders, cX4_mixOrders, 7, (some .long), 2, [])
theorem mt_87 : j_mt[87]? = some mtI_87 := rfl
def mtI_88 : jMe := (4, yX4_mixShips, cX4_mixShips, 7, (some .long), 2, [])
theorem mt_88 : j_mt[88]? = some mtI_88 := rfl
def mtI_89 : jMe := (4, yX4_mixForecasts, cX4_mixForecasts, 6, (some .long), 2, [])
theorem mt_89 : j_mt[89]? = some mtI_89 := rfl
def mtI_90 : jMe := (4, yX4_isOrder, cX4_isOrder, 4, (some .boolean), 4, [])
theorem mt_90 : j_mt[90]? = some mtI_90 := rfl
def mtI_91 : jMe := (4, yX4_usesHoldB, cX4_usesHoldB, 1, (some .boolean), 1, [])
theorem mt_91 : j_mt[91]? = some mtI_91 := rfl
def mtI_92 : jMe := (4, yX4_isHold, cX4_isHold, 1, (some .boolean), 1, [])
theorem mt_92 : j_mt[92]? = some mtI_92 := rfl
def mtI_93 : jMe := (4, yX4_requireHold, cX4_requireHold, 1, none, 1, [])
theorem mt_93 : j_mt[93]? = some mtI_93 := rfl
def mtI_94 : jMe := (4, yX4_requireShip, cX4_requireShip, 1, none, 1, [])
theorem mt_94 : j_mt[94]? = some mtI_94 := rfl
def mtI_95 : jMe := (4, yX4_requireKept, cX4_requireKept, 2, none, 2, [])
theorem mt_95 : j_mt[95]? = some mtI_95 := rfl
def mtI_96 : jMe := (4, yX4_saveState, cX4_saveState, 3, none, 1, [])
theorem mt_96 : j_mt[96]? = some mtI_96 := rfl
def mtI_97 : jMe := (4, yX4_obeyCommand, cX4_obeyCommand, 1, (some .boolean), 1, [])
theorem mt_97 : j_mt[97]? = some mtI_97 := rfl
def mtI_98 : jMe := (4, yX4_obeyWrite, cX4_obeyWrite, 2, (some .boolean), 2, [])
theorem mt_98 : j_mt[98]? = some mtI_98 := rfl
def mtI_99 : jMe := (4, yX4_obeySnapshot, cX4_obeySnapshot, 2, (some .boolean), 1, [])
theorem mt_99 : j_mt[99]? = some mtI_99 := rfl
def mtI_100 : jMe := (5, yX5_init, cX5_init, 1, none, 1, [])
theorem mt_100 : j_mt[100]? = some mtI_100 := rfl
def mtI_101 : jMe := (5, yX5_thrown, cX5_thrown, 1, (some .int), 1, [])
theorem mt_101 : j_mt[101]? = some mtI_101 := rfl
def mtI_102 : jMe := (5, yX5_fails, cX5_fails, 2, (some .int), 2, [])
theorem mt_102 : j_mt[102]? = some mtI_102 := rfl
def mtI_103 : jMe := (5, yX5_well, cX5_well, 2, (some .int), 2, [])
theorem mt_103 : j_mt[103]? = some mtI_103 := rfl
def mtI_104 : jMe := (5, yX5_in, cX5_in, 3, (some .boolean), 3, [])
theorem mt_104 : j_mt[104]? = some mtI_104 := rfl
def mtI_105 : jMe := (5, yX5_fresh, cX5_fresh, 3, none, 2, [])
theorem mt_105 : j_mt[105]? = some mtI_105 := rfl
def mtI_106 : jMe := (5, yX5_of, cX5_of, 3, (some .int), 3, [])
theorem mt_106 : j_mt[106]? = some mtI_106 := rfl
def mtI_107 : jMe := (5, yX5_puts, cX5_puts, 4, none, 4, [])
theorem mt_107 : j_mt[107]? = some mtI_107 := rfl
def mtI_108 : jMe := (5, yX5_told, cX5_told, 3, (some .int), 3, [])
theorem mt_108 : j_mt[108]? = some mtI_108 := rfl
def mtI_109 : jMe := (5, yX5_tells, cX5_tells, 4, none, 4, [])
theorem mt_109 : j_mt[109]? = some mtI_109 := rfl
def mtI_110 : jMe := (5, yX5_isShip, cX5_isShip, 1, (some .boolean), 1, [])
theorem mt_110 : j_mt[110]? = some mtI_110 := rfl
def mtI_111 : jMe := (5, yX5_isKept, cX5_isKept, 2, (some .boolean), 2, [])
theorem mt_111 : j_mt[111]? = some mtI_111 := rfl
def mtI_112 : jMe := (5, yX5_isReadable, cX5_isReadable, 2, (some .boolean), 2, [])
theorem mt_112 : j_mt[112]? = some mtI_112 := rfl
def mtI_113 : jMe := (5, yX5_many, cX5_many, 1, (some .int), 1, [])
theorem mt_113 : j_mt[113]? = some mtI_113 := rfl
def mtI_114 : jMe := (5, yX5_asides, cX5_asides, 2, none, 1, [])
theorem mt_114 : j_mt[114]? = some mtI_114 := rfl
def mtI_115 : jMe := (5, yX5_saves, cX5_saves, 2, none, 1, [])
theorem mt_115 : j_mt[115]? = some mtI_115 := rfl
def mtI_116 : jMe := (5, yX5_ends, cX5_ends, 2, (some .int), 2, [])
theorem mt_116 : j_mt[116]? = some mtI_116 := rfl
def mtI_117 : jMe := (5, yX5_undo, cX5_undo, 2, (some .int), 1, [])
theorem mt_117 : j_mt[117]? = some mtI_117 := rfl
def mtI_118 : jMe := (5, yX5_does, cX5_does, 9, none, 4, [])
theorem mt_118 : j_mt[118]? = some mtI_118 := rfl
def mtI_119 : jMe := (5, yX5_stopOf, cX5_stopOf, 3, (some .int), 2, [])
theorem mt_119 : j_mt[119]? = some mtI_119 := rfl
def mtI_120 : jMe := (5, yX5_couldReplay, cX5_couldReplay, 2, (some .int), 2, [])
theorem mt_120 : j_mt[120]? = some mtI_120 := rfl
def mtI_121 : jMe := (5, yX5_leastSnapshot, cX5_leastSnapshot, 1, (some .int), 1, [])
theorem mt_121 : j_mt[121]? = some mtI_121 := rfl
def mtI_122 : jMe := (5, yX5_writes, cX5_writes, 5, (some .int), 5, [])
theorem mt_122 : j_mt[122]? = some mtI_122 := rfl
def mtI_123 : jMe := (5, yX5_replays, cX5_replays, 5, (some .int), 3, [])
theorem mt_123 : j_mt[123]? = some mtI_123 := rfl
def mtI_124 : jMe := (5, yX5_snaps, cX5_snaps, 3, (some .int), 2, [])
theorem mt_124 : j_mt[124]? = some mtI_124 := rfl
def mtI_125 : jMe := (5, yX5_crashes, cX5_crashes, 3, (some .int), 2, [])
theorem mt_125 : j_mt[125]? = some mtI_125 := rfl
def mtI_126 : jMe := (5, yX5_begin, cX5_begin, 3, (some .int), 2, [])
theorem mt_126 : j_mt[126]? = some mtI_126 := rfl
def mtI_127 : jMe := (5, yX5_write, cX5_write, 5, (some .int), 5, [])
theorem mt_127 : j_mt[127]? = some mtI_127 := rfl
def mtI_128 : jMe := (5, yX5_ones, cX5_ones, 1, (some .int), 1, [])
theorem mt_128 : j_mt[128]? = some mtI_128 := rfl
def mtI_129 : jMe := (5, yX5_spoil, cX5_spoil, 3, (some .int), 3, [])
theorem mt_129 : j_mt[129]? = some mtI_129 := rfl
def mtI_130 : jMe := (5, yX5_isKnown, cX5_isKnown, 2, (some .boolean), 2, [])
theorem mt_130 : j_mt[130]? = some mtI_130 := rfl
def mtI_131 : jMe := (5, yX5_repair, cX5_repair, 3, (some .int), 1, [])
theorem mt_131 : j_mt[131]? = some mtI_131 := rfl
def mtI_132 : jMe := (5, yX5_replay, cX5_replay, 3, (some .int), 3, [])
theorem mt_132 : j_mt[132]? = some mtI_132 := rfl
def mtI_133 : jMe := (5, yX5_snapshot, cX5_snapshot, 2, (some .int), 2, [])
theorem mt_133 : j_mt[133]? = some mtI_133 := rfl
def mtI_134 : jMe := (5, yX5_crash, cX5_crash, 2, (some .int), 2, [])
theorem mt_134 : j_mt[134]? = some mtI_134 := rfl
def mtI_135 : jMe := (5, yX5_link, cX5_link, 4, (some .int), 3, [])
theorem mt_135 : j_mt[135]? = some mtI_135 := rfl
def mtI_136 : jMe := (5, yX5_orderNumber, cX5_orderNumber, 3, (some .int), 3, [])
theorem mt_136 : j_mt[136]? = some mtI_136 := rfl
def mtI_137 : jMe := (5, yX5_order, cX5_order, 3, (some .int), 3, [])
theorem mt_137 : j_mt[137]? = some mtI_137 := rfl
def mtI_138 : jMe := (5, yX5_shipNumber, cX5_shipNumber, 5, (some .int), 3, [])
theorem mt_138 : j_mt[138]? = some mtI_138 := rfl
def mtI_139 : jMe := (5, yX5_ship, cX5_ship, 3, (some .int), 3, [])
theorem mt_139 : j_mt[139]? = some mtI_139 := rfl
def mtI_140 : jMe := (5, yX5_hold, cX5_hold, 3, (some .int), 3, [])
theorem mt_140 : j_mt[140]? = some mtI_140 := rfl
def mtI_141 : jMe := (5, yX5_spoiled, cX5_spoiled, 4, (some .int), 2, [])
theorem mt_141 : j_mt[141]? = some mtI_141 := rfl
def mtI_142 : jMe := (5, yX5_number, cX5_number, 2, (some .int), 2, [])
theorem mt_142 : j_mt[142]? = some mtI_142 := rfl
def mtI_143 : jMe := (5, yX5_value, cX5_value, 2, (some .int), 2, [])
theorem mt_143 : j_mt[143]? = some mtI_143 := rfl
def mtI_144 : jMe := (5, yX5_ahead, cX5_ahead, 2, (some .int), 2, [])
theorem mt_144 : j_mt[144]? = some mtI_144 := rfl
def mtI_145 : jMe := (5, yX5_stop, cX5_stop, 2, (some .int), 2, [])
theorem mt_145 : j_mt[145]? = some mtI_145 := rfl
def mtI_146 : jMe := (5, yX5_thinks, cX5_thinks, 5, (some .boolean), 3, [])
theorem mt_146 : j_mt[146]? = some mtI_146 := rfl
def mtI_147 : jMe := (5, yX5_takes, cX5_takes, 4, none, 3, [])
theorem mt_147 : j_mt[147]? = some mtI_147 := rfl
def mtI_148 : jMe := (5, yX5_slow, cX5_slow, 1, (some .int), 1, [])
theorem mt_148 : j_mt[148]? = some mtI_148 := rfl
def mtI_149 : jMe := (5, yX5_tons, cX5_tons, 3, (some .int), 3, [])
theorem mt_149 : j_mt[149]? = some mtI_149 := rfl
def mtI_150 : jMe := (5, yX5_tonsAt, cX5_tonsAt, 3, (some .int), 3, [])
theorem mt_150 : j_mt[150]? = some mtI_150 := rfl
def mtI_151 : jMe := (5, yX5_agrees, cX5_agrees, 3, (some .int), 1, [])
theorem mt_151 : j_mt[151]? = some mtI_151 := rfl
def mtI_152 : jMe := (5, yX5_agree, cX5_agree, 1, (some .int), 1, [])
theorem mt_152 : j_mt[152]? = some mtI_152 := rfl
def mtI_153 : jMe := (5, yX5_roomBy, cX5_roomBy, 4, (some .int), 2, [])
theorem mt_153 : j_mt[153]? = some mtI_153 := rfl
def mtI_154 : jMe := (5, yX5_slower, cX5_slower, 1, (some .int), 1, [])
theorem mt_154 : j_mt[154]? = some mtI_154 := rfl
def mtI_155 : jMe := (5, yX5_fullness, cX5_fullness, 1, (some .double), 1, [])
theorem mt_155 : j_mt[155]? = some mtI_155 := rfl
def mtI_156 : jMe := (5, yX5_append, cX5_append, 2, (some .int), 2, [])
theorem mt_156 : j_mt[156]? = some mtI_156 := rfl
def mtI_157 : jMe := (5, yX5_clearText, cX5_clearText, 2, (some .int), 1, [])
theorem mt_157 : j_mt[157]? = some mtI_157 := rfl
def mtI_158 : jMe := (5, yX5_here, cX5_here, 1, (some .int), 1, [])
theorem mt_158 : j_mt[158]? = some mtI_158 := rfl
def mtI_159 : jMe := (5, yX5_wrong, cX5_wrong, 2, none, 2, [])
theorem mt_159 : j_mt[159]? = some mtI_159 := rfl
def mtI_160 : jMe := (5, yX5_sign, cX5_sign, 2, none, 2, [])
theorem mt_160 : j_mt[160]? = some mtI_160 := rfl
def mtI_161 : jMe := (5, yX5_digit, cX5_digit, 3, (some .int), 2, [])
theorem mt_161 : j_mt[161]? = some mtI_161 := rfl
def mtI_162 : jMe := (5, yX5_isDigit, cX5_isDigit, 1, (some .boolean), 1, [])
theorem mt_162 : j_mt[162]? = some mtI_162 := rfl
def mtI_163 : jMe := (5, yX5_readAmount, cX5_readAmount, 3, (some .int), 1, [])
theorem mt_163 : j_mt[163]? = some mtI_163 := rfl
def mtI_164 : jMe := (5, yX5_reads, cX5_reads, 1, none, 1, [])
theorem mt_164 : j_mt[164]? = some mtI_164 := rfl
def mtI_165 : jMe := (5, yX5_faultOf, cX5_faultOf, 1, (some .int), 1, [])
theorem mt_165 : j_mt[165]? = some mtI_165 := rfl
def mtI_166 : jMe := (5, yX5_carries, cX5_carries, 1, (some .int), 1, [])
theorem mt_166 : j_mt[166]? = some mtI_166 := rfl
def mtI_167 : jMe := (5, yX5_carryOut, cX5_carryOut, 3, (some .int), 1, [])
theorem mt_167 : j_mt[167]? = some mtI_167 := rfl
def mtI_168 : jMe := (5, yX5_hashes, cX5_hashes, 2, none, 2, [])
theorem mt_168 : j_mt[168]? = some mtI_168 := rfl
def mtI_169 : jMe := (5, yX5_digest, cX5_digest, 3, (some .long), 1, [])
theorem mt_169 : j_mt[169]? = some mtI_169 := rfl
def mtI_170 : jMe := (6, yJ6_bitCount_0f7a4, cJ6_bitCount_0f7a4, 1, (some .int), 1, [])
theorem mt_170 : j_mt[170]? = some mtI_170 := rfl
def mtI_171 : jMe := (8, yL_begin, cL_begin, 4, (some .int), 3, [(0, 9, 12, 13)])
theorem mt_171 : j_mt[171]? = some mtI_171 := rfl
def mtI_172 : jMe := (8, yL_write, cL_write, 7, (some .int), 6, [(0, 14, 17, 13), (0, 14, 21, 19)])
theorem mt_172 : j_mt[172]? = some mtI_172 := rfl
def mtI_173 : jMe := (8, yL_spoil, cL_spoil, 5, (some .int), 4, [(0, 10, 13, 25), (0, 10, 17, 13)])
theorem mt_173 : j_mt[173]? = some mtI_173 := rfl
def mtI_174 : jMe := (8, yL_replay, cL_replay, 5, (some .int), 4, [(0, 10, 13, 25), (0, 10, 17, 13)])
theorem mt_174 : j_mt[174]? = some mtI_174 := rfl
def mtI_175 : jMe := (8, yL_snapshot, cL_snapshot, 4, (some .int), 3, [(0, 9, 12, 25), (0, 9, 15, 19)])
theorem mt_175 : j_mt[175]? = some mtI_175 := rfl
def mtI_176 : jMe := (8, yL_crash, cL_crash, 4, (some .int), 3, [(0, 9, 12, 25)])
theorem mt_176 : j_mt[176]? = some mtI_176 := rfl
def mtI_177 : jMe := (8, yL_link, cL_link, 5, (some .int), 4, [(0, 10, 13, 25), (0, 10, 17, 19)])
theorem mt_177 : j_mt[177]? = some mtI_177 := rfl
def mtI_178 : jMe := (8, yL_order, cL_order, 5, (some .int), 4, [(0, 10, 13, 25), (0, 10, 17, 13)])
theorem mt_178 : j_mt[178]? = some mtI_178 := rfl
def mtI_179 : jMe := (8, yL_ship, cL_ship, 5, (some .int), 4, [(0, 10, 13, 25), (0, 10, 17, 13)])
theorem mt_179 : j_mt[179]? = some mtI_179 := rfl
def mtI_180 : jMe := (8, yL_hold, cL_hold, 5, (some .int), 4, [(0, 10, 13, 25)])
theorem mt_180 : j_mt[180]? = some mtI_180 := rfl
def mtI_181 : jMe := (8, yL_value, cL_value, 4, (some .int), 3, [(0, 9, 12, 13)])
theorem mt_181 : j_mt[181]? = some mtI_181 := rfl
def mtI_182 : jMe := (8, yL_ahead, cL_ahead, 4, (some .int), 3, [(0, 9, 12, 25)])
theorem mt_182 : j_mt[182]? = some mtI_182 := rfl
def mtI_183 : jMe := (8, yL_stop, cL_stop, 4, (some .int), 3, [(0, 9, 12, 25)])
theorem mt_183 : j_mt[183]? = some mtI_183 := rfl
def mtI_184 : jMe := (8, yL_tonsAt, cL_tonsAt, 5, (some .int), 4, [(0, 10, 13, 25)])
theorem mt_184 : j_mt[184]? = some mtI_184 := rfl
def mtI_185 : jMe := (8, yL_roomBy, cL_roomBy, 4, (some .int), 3, [(0, 9, 12, 25)])
theorem mt_185 : j_mt[185]? = some mtI_185 := rfl
def mtI_186 : jMe := (8, yL_append, cL_append, 4, (some .int), 3, [(0, 9, 12, 13), (0, 9, 15, 19)])
theorem mt_186 : j_mt[186]? = some mtI_186 := rfl
def mtI_187 : jMe := (8, yL_undo, cL_undo, 3, (some .int), 2, [(0, 8, 11, 19)])
theorem mt_187 : j_mt[187]? = some mtI_187 := rfl
def mtI_188 : jMe := (8, yL_law, cL_law, 9, (some .boolean), 1, [])
theorem mt_188 : j_mt[188]? = some mtI_188 := rfl
theorem zN_fb {a : Nat} (h : a < 2) : fits (j_ty 1 2) (.int (zN a)) = true := by
  obtain rfl | rfl : a = 0 ∨ a = 1 := by omega
  · decide +kernel
  · decide +kernel
theorem cl_0_3 : j_cl 0 3 = some (6, 0) := by decide +kernel
theorem c_bi32 : (Int8.ofInt (32)).toInt32 = (zN 32) := by decide +kernel
theorem f_0_9 : j_fl 0 9 = some (0, 3) := by decide +kernel
theorem f_0_15 : j_fl 0 15 = some (0, 4) := by decide +kernel
theorem f_0_18 : j_fl 0 18 = some (0, 5) := by decide +kernel
theorem f_0_21 : j_fl 0 21 = some (0, 6) := by decide +kernel
theorem f_0_24 : j_fl 0 24 = some (0, 7) := by decide +kernel
theorem c_bi31 : (Int8.ofInt (31)).toInt32 = (zN 31) := by decide +kernel
theorem f_0_27 : j_fl 0 27 = some (0, 0) := by decide +kernel
theorem c_ic0 : Int32.ofInt (0) = (zN 0) := by decide +kernel
theorem f_0_31 : j_fl 0 31 = some (0, 1) := by decide +kernel
theorem f_0_34 : j_fl 0 34 = some (0, 2) := by decide +kernel
theorem cl_0_37 : j_cl 0 37 = some (7, 0) := by decide +kernel
theorem cl_0_43 : j_cl 0 43 = some (0, 4) := by decide +kernel
theorem c_ic1 : Int32.ofInt (1) = (zN 1) := by decide +kernel
theorem cl_0_47 : j_cl 0 47 = some (1, 1) := by decide +kernel
theorem cl_0_51 : j_cl 0 51 = some (5, 91) := by decide +kernel
theorem cl_0_55 : j_cl 0 55 = some (0, 12) := by decide +kernel
theorem c_ic3 : Int32.ofInt (3) = (zN 3) := by decide +kernel
theorem cl_0_58 : j_cl 0 58 = some (1, 170) := by decide +kernel
theorem cl_0_63 : j_cl 0 63 = some (0, 13) := by decide +kernel
theorem cl_0_66 : j_cl 0 66 = some (0, 20) := by decide +kernel
theorem c_si999 : (Int16.ofInt (999)).toInt32 = (zN 999) := by decide +kernel
theorem cl_0_70 : j_cl 0 70 = some (9, 0) := by decide +kernel
theorem cl_0_76 : j_cl 0 76 = some (8, 0) := by decide +kernel
theorem cl_0_79 : j_cl 0 79 = some (1, 21) := by decide +kernel
theorem cl_0_83 : j_cl 0 83 = some (1, 22) := by decide +kernel
theorem cl_0_87 : j_cl 0 87 = some (1, 23) := by decide +kernel
theorem c_ic2 : Int32.ofInt (2) = (zN 2) := by decide +kernel
theorem cl_1_3 : j_cl 1 3 = some (6, 0) := by decide +kernel
theorem c_bi8 : (Int8.ofInt (8)).toInt32 = (zN 8) := by decide +kernel
theorem f_1_9 : j_fl 1 9 = some (1, 5) := by decide +kernel
theorem f_1_15 : j_fl 1 15 = some (1, 6) := by decide +kernel
theorem f_1_18 : j_fl 1 18 = some (1, 0) := by decide +kernel
theorem f_1_22 : j_fl 1 22 = some (1, 1) := by decide +kernel
theorem f_1_25 : j_fl 1 25 = some (1, 2) := by decide +kernel
theorem f_1_29 : j_fl 1 29 = some (1, 3) := by decide +kernel
theorem f_1_32 : j_fl 1 32 = some (1, 4) := by decide +kernel
theorem cl_1_35 : j_cl 1 35 = some (7, 0) := by decide +kernel
theorem cl_2_3 : j_cl 2 3 = some (6, 0) := by decide +kernel
theorem tl_2_9 : j_tl 2 9 = none := by decide +kernel
theorem ol_2_9 : j_ol 2 9 = some 0 := by decide +kernel
theorem cl_2_11 : j_cl 2 11 = some (4, 0) := by decide +kernel
theorem f_2_12 : j_fl 2 12 = some (2, 0) := by decide +kernel
theorem tl_2_18 : j_tl 2 18 = none := by decide +kernel
theorem ol_2_18 : j_ol 2 18 = some 1 := by decide +kernel
theorem cl_2_20 : j_cl 2 20 = some (4, 24) := by decide +kernel
theorem f_2_21 : j_fl 2 21 = some (2, 1) := by decide +kernel
theorem f_2_25 : j_fl 2 25 = some (2, 2) := by decide +kernel
theorem cl_2_28 : j_cl 2 28 = some (0, 32) := by decide +kernel
theorem cl_2_32 : j_cl 2 32 = some (0, 2) := by decide +kernel
theorem cl_2_33 : j_cl 2 33 = some (0, 25) := by decide +kernel
theorem f_2_35 : j_fl 2 35 = some (2, 3) := by decide +kernel
theorem cl_2_39 : j_cl 2 39 = some (0, 3) := by decide +kernel
theorem cl_2_43 : j_cl 2 43 = some (0, 26) := by decide +kernel
theorem f_2_46 : j_fl 2 46 = some (1, 0) := by decide +kernel
theorem f_2_49 : j_fl 2 49 = some (1, 1) := by decide +kernel
theorem f_2_52 : j_fl 2 52 = some (1, 2) := by decide +kernel
theorem cl_2_56 : j_cl 2 56 = some (0, 41) := by decide +kernel
theorem f_2_60 : j_fl 2 60 = some (1, 5) := by decide +kernel
theorem cl_2_64 : j_cl 2 64 = some (0, 20) := by decide +kernel
theorem f_2_68 : j_fl 2 68 = some (1, 3) := by decide +kernel
theorem cl_2_71 : j_cl 2 71 = some (0, 6) := by decide +kernel
theorem cl_2_75 : j_cl 2 75 = some (0, 13) := by decide +kernel
theorem cl_2_78 : j_cl 2 78 = some (0, 27) := by decide +kernel
theorem f_2_81 : j_fl 2 81 = some (0, 1) := by decide +kernel
theorem cl_2_84 : j_cl 2 84 = some (0, 37) := by decide +kernel
theorem f_2_88 : j_fl 2 88 = some (0, 2) := by decide +kernel
theorem cl_2_91 : j_cl 2 91 = some (0, 44) := by decide +kernel
theorem cl_2_94 : j_cl 2 94 = some (0, 15) := by decide +kernel
theorem cl_2_98 : j_cl 2 98 = some (1, 45) := by decide +kernel
theorem cl_3_3 : j_cl 3 3 = some (6, 0) := by decide +kernel
theorem f_3_9 : j_fl 3 9 = some (3, 0) := by decide +kernel
theorem c_bi100 : (Int8.ofInt (100)).toInt32 = (zN 100) := by decide +kernel
theorem f_3_15 : j_fl 3 15 = some (3, 1) := by decide +kernel
theorem f_3_19 : j_fl 3 19 = some (3, 2) := by decide +kernel
theorem c_icm1 : Int32.ofInt (-1) = (zM 0) := by decide +kernel
theorem f_3_22 : j_fl 3 22 = some (3, 3) := by decide +kernel
theorem f_3_25 : j_fl 3 25 = some (3, 4) := by decide +kernel
theorem f_3_28 : j_fl 3 28 = some (3, 5) := by decide +kernel
theorem f_3_31 : j_fl 3 31 = some (3, 6) := by decide +kernel
theorem cl_3_34 : j_cl 3 34 = some (0, 51) := by decide +kernel
theorem cl_3_37 : j_cl 3 37 = some (0, 52) := by decide +kernel
theorem cl_3_41 : j_cl 3 41 = some (0, 54) := by decide +kernel
theorem cl_3_44 : j_cl 3 44 = some (0, 50) := by decide +kernel
theorem cl_3_48 : j_cl 3 48 = some (0, 55) := by decide +kernel
theorem cl_3_52 : j_cl 3 52 = some (0, 56) := by decide +kernel
theorem c_bi44 : (Int8.ofInt (44)).toInt32 = (zN 44) := by decide +kernel
theorem cl_3_55 : j_cl 3 55 = some (0, 59) := by decide +kernel
theorem c_bi59 : (Int8.ofInt (59)).toInt32 = (zN 59) := by decide +kernel
theorem cl_3_58 : j_cl 3 58 = some (0, 57) := by decide +kernel
theorem cl_3_61 : j_cl 3 61 = some (0, 58) := by decide +kernel
theorem c_bi48 : (Int8.ofInt (48)).toInt32 = (zN 48) := by decide +kernel
theorem cl_3_64 : j_cl 3 64 = some (1, 60) := by decide +kernel
theorem c_bi10 : (Int8.ofInt (10)).toInt32 = (zN 10) := by decide +kernel
theorem c_bi57 : (Int8.ofInt (57)).toInt32 = (zN 57) := by decide +kernel
theorem cl_4_1 : j_cl 4 1 = some (6, 0) := by decide +kernel
theorem tl_4_7 : j_tl 4 7 = none := by decide +kernel
theorem ol_4_7 : j_ol 4 7 = some 2 := by decide +kernel
theorem cl_4_9 : j_cl 4 9 = some (3, 31) := by decide +kernel
theorem f_4_10 : j_fl 4 10 = some (4, 0) := by decide +kernel
theorem c_ic4 : Int32.ofInt (4) = (zN 4) := by decide +kernel
theorem f_4_16 : j_fl 4 16 = some (4, 1) := by decide +kernel
theorem f_4_20 : j_fl 4 20 = some (4, 2) := by decide +kernel
theorem tl_4_24 : j_tl 4 24 = none := by decide +kernel
theorem ol_4_24 : j_ol 4 24 = some 3 := by decide +kernel
theorem cl_4_26 : j_cl 4 26 = some (4, 46) := by decide +kernel
theorem f_4_27 : j_fl 4 27 = some (4, 3) := by decide +kernel
theorem f_4_31 : j_fl 4 31 = some (4, 4) := by decide +kernel
theorem tl_4_35 : j_tl 4 35 = some ("java/lang/IllegalArgumentException", 39) := by decide +kernel
theorem sr_4_37 : (j_sr 4 37).isSome = true := by decide +kernel
theorem cl_4_42 : j_cl 4 42 = some (0, 96) := by decide +kernel
theorem f_4_45 : j_fl 4 45 = some (2, 0) := by decide +kernel
theorem cl_4_49 : j_cl 4 49 = some (0, 4) := by decide +kernel
theorem cl_4_55 : j_cl 4 55 = some (0, 32) := by decide +kernel
theorem cl_4_59 : j_cl 4 59 = some (1, 90) := by decide +kernel
theorem sr_4_63 : (j_sr 4 63).isSome = true := by decide +kernel
theorem cl_4_65 : j_cl 4 65 = some (0, 5) := by decide +kernel
theorem tl_4_69 : j_tl 4 69 = some ("java/lang/IllegalStateException", 73) := by decide +kernel
theorem sr_4_71 : (j_sr 4 71).isSome = true := by decide +kernel
theorem cl_4_74 : j_cl 4 74 = some (0, 7) := by decide +kernel
theorem cl_4_78 : j_cl 4 78 = some (0, 95) := by decide +kernel
theorem sr_4_81 : (j_sr 4 81).isSome = true := by decide +kernel
theorem cl_4_83 : j_cl 4 83 = some (0, 14) := by decide +kernel
theorem cl_4_87 : j_cl 4 87 = some (0, 43) := by decide +kernel
theorem cl_4_90 : j_cl 4 90 = some (1, 94) := by decide +kernel
theorem c_bi99 : (Int8.ofInt (99)).toInt32 = (zN 99) := by decide +kernel
theorem sr_4_93 : (j_sr 4 93).isSome = true := by decide +kernel
theorem cl_4_95 : j_cl 4 95 = some (0, 34) := by decide +kernel
theorem cl_4_99 : j_cl 4 99 = some (0, 40) := by decide +kernel
theorem f_4_103 : j_fl 4 103 = some (1, 2) := by decide +kernel
theorem sr_4_109 : (j_sr 4 109).isSome = true := by decide +kernel
theorem cl_4_111 : j_cl 4 111 = some (0, 42) := by decide +kernel
theorem cl_4_115 : j_cl 4 115 = some (0, 28) := by decide +kernel
theorem sr_4_118 : (j_sr 4 118).isSome = true := by decide +kernel
theorem cl_4_120 : j_cl 4 120 = some (0, 38) := by decide +kernel
theorem cl_4_123 : j_cl 4 123 = some (0, 8) := by decide +kernel
theorem cl_4_127 : j_cl 4 127 = some (0, 9) := by decide +kernel
theorem cl_4_130 : j_cl 4 130 = some (0, 10) := by decide +kernel
theorem cl_4_133 : j_cl 4 133 = some (0, 11) := by decide +kernel
theorem cl_4_136 : j_cl 4 136 = some (0, 12) := by decide +kernel
theorem cl_4_139 : j_cl 4 139 = some (0, 39) := by decide +kernel
theorem sr_4_142 : (j_sr 4 142).isSome = true := by decide +kernel
theorem f_4_144 : j_fl 4 144 = some (1, 0) := by decide +kernel
theorem f_4_147 : j_fl 4 147 = some (1, 1) := by decide +kernel
theorem cl_4_150 : j_cl 4 150 = some (0, 29) := by decide +kernel
theorem f_4_153 : j_fl 4 153 = some (1, 3) := by decide +kernel
theorem f_4_156 : j_fl 4 156 = some (1, 4) := by decide +kernel
theorem sr_4_159 : (j_sr 4 159).isSome = true := by decide +kernel
theorem cl_4_161 : j_cl 4 161 = some (1, 93) := by decide +kernel
theorem f_4_164 : j_fl 4 164 = some (1, 5) := by decide +kernel
theorem f_4_167 : j_fl 4 167 = some (0, 0) := by decide +kernel
theorem f_4_170 : j_fl 4 170 = some (0, 1) := by decide +kernel
theorem f_4_173 : j_fl 4 173 = some (0, 2) := by decide +kernel
theorem cl_4_176 : j_cl 4 176 = some (0, 16) := by decide +kernel
theorem cl_4_179 : j_cl 4 179 = some (0, 17) := by decide +kernel
theorem f_4_182 : j_fl 4 182 = some (2, 3) := by decide +kernel
theorem sr_4_185 : (j_sr 4 185).isSome = true := by decide +kernel
theorem cl_4_187 : j_cl 4 187 = some (0, 18) := by decide +kernel
theorem cl_4_190 : j_cl 4 190 = some (0, 37) := by decide +kernel
theorem f_4_194 : j_fl 4 194 = some (1, 6) := by decide +kernel
theorem cl_4_197 : j_cl 4 197 = some (7, 0) := by decide +kernel
theorem cl_4_203 : j_cl 4 203 = some (0, 19) := by decide +kernel
theorem cl_4_207 : j_cl 4 207 = some (0, 36) := by decide +kernel
theorem cl_4_210 : j_cl 4 210 = some (0, 35) := by decide +kernel
theorem cl_4_214 : j_cl 4 214 = some (0, 30) := by decide +kernel
theorem cl_4_218 : j_cl 4 218 = some (9, 0) := by decide +kernel
theorem f_4_223 : j_fl 4 223 = some (2, 1) := by decide +kernel
theorem f_4_227 : j_fl 4 227 = some (2, 2) := by decide +kernel
theorem c_bi127 : (Int8.ofInt (127)).toInt32 = (zN 127) := by decide +kernel
theorem sr_4_230 : (j_sr 4 230).isSome = true := by decide +kernel
theorem cl_4_232 : j_cl 4 232 = some (0, 47) := by decide +kernel
theorem sr_4_233 : (j_sr 4 233).isSome = true := by decide +kernel
theorem cl_4_235 : j_cl 4 235 = some (0, 48) := by decide +kernel
theorem cl_4_237 : j_cl 4 237 = some (0, 49) := by decide +kernel
theorem cl_4_240 : j_cl 4 240 = some (0, 53) := by decide +kernel
theorem c_bim10 : (Int8.ofInt (-10)).toInt32 = (zM 9) := by decide +kernel
theorem cl_4_243 : j_cl 4 243 = some (0, 51) := by decide +kernel
theorem cl_4_246 : j_cl 4 246 = some (0, 52) := by decide +kernel
theorem cl_4_249 : j_cl 4 249 = some (0, 54) := by decide +kernel
theorem cl_4_252 : j_cl 4 252 = some (0, 97) := by decide +kernel
theorem sr_4_255 : (j_sr 4 255).isSome = true := by decide +kernel
theorem cl_4_257 : j_cl 4 257 = some (0, 33) := by decide +kernel
theorem kj_4_261 : j_kj 4 261 = some 3797 := by decide +kernel
theorem f_4_263 : j_fl 4 263 = some (3, 0) := by decide +kernel
theorem cl_4_266 : j_cl 4 266 = some (1, 86) := by decide +kernel
theorem c_bi7 : (Int8.ofInt (7)).toInt32 = (zN 7) := by decide +kernel
theorem cl_4_270 : j_cl 4 270 = some (0, 73) := by decide +kernel
theorem cl_4_273 : j_cl 4 273 = some (0, 87) := by decide +kernel
theorem cl_4_277 : j_cl 4 277 = some (0, 88) := by decide +kernel
theorem cl_4_280 : j_cl 4 280 = some (0, 89) := by decide +kernel
theorem kj_4_283 : j_kj 4 283 = some 31 := by decide +kernel
theorem c_bi6 : (Int8.ofInt (6)).toInt32 = (zN 6) := by decide +kernel
theorem cl_4_285 : j_cl 4 285 = some (0, 70) := by decide +kernel
theorem cl_4_288 : j_cl 4 288 = some (0, 71) := by decide +kernel
theorem cl_4_291 : j_cl 4 291 = some (0, 72) := by decide +kernel
theorem cl_4_294 : j_cl 4 294 = some (0, 74) := by decide +kernel
theorem cl_4_297 : j_cl 4 297 = some (0, 77) := by decide +kernel
theorem cl_4_300 : j_cl 4 300 = some (0, 76) := by decide +kernel
theorem cl_4_303 : j_cl 4 303 = some (1, 92) := by decide +kernel
theorem cl_4_307 : j_cl 4 307 = some (1, 91) := by decide +kernel
theorem tl_4_310 : j_tl 4 310 = some ("java/lang/IndexOutOfBoundsException", 314) := by decide +kernel
theorem sr_4_312 : (j_sr 4 312).isSome = true := by decide +kernel
theorem sr_4_315 : (j_sr 4 315).isSome = true := by decide +kernel
theorem cl_4_317 : j_cl 4 317 = some (0, 6) := by decide +kernel
theorem sr_4_320 : (j_sr 4 320).isSome = true := by decide +kernel
theorem f_4_322 : j_fl 4 322 = some (3, 3) := by decide +kernel
theorem cl_4_325 : j_cl 4 325 = some (0, 98) := by decide +kernel
theorem f_4_328 : j_fl 4 328 = some (3, 4) := by decide +kernel
theorem f_4_330 : j_fl 4 330 = some (3, 6) := by decide +kernel
theorem cl_4_333 : j_cl 4 333 = some (0, 99) := by decide +kernel
theorem f_4_336 : j_fl 4 336 = some (3, 5) := by decide +kernel
theorem cl_5_1 : j_cl 5 1 = some (6, 0) := by decide +kernel
theorem c_si206 : (Int16.ofInt (206)).toInt32 = (zN 206) := by decide +kernel
theorem f_5_7 : j_fl 5 7 = some (5, 0) := by decide +kernel
theorem c_si824 : (Int16.ofInt (824)).toInt32 = (zN 824) := by decide +kernel
theorem f_5_13 : j_fl 5 13 = some (5, 1) := by decide +kernel
theorem f_5_16 : j_fl 5 16 = some (5, 3) := by decide +kernel
theorem f_5_19 : j_fl 5 19 = some (5, 4) := by decide +kernel
theorem f_5_22 : j_fl 5 22 = some (5, 6) := by decide +kernel
theorem cl_5_25 : j_cl 5 25 = some (0, 105) := by decide +kernel
theorem f_5_29 : j_fl 5 29 = some (5, 7) := by decide +kernel
theorem c_si165 : (Int16.ofInt (165)).toInt32 = (zN 165) := by decide +kernel
theorem c_si186 : (Int16.ofInt (186)).toInt32 = (zN 186) := by decide +kernel
theorem c_si164 : (Int16.ofInt (164)).toInt32 = (zN 164) := by decide +kernel
theorem c_bi21 : (Int8.ofInt (21)).toInt32 = (zN 21) := by decide +kernel
theorem c_ic5 : Int32.ofInt (5) = (zN 5) := by decide +kernel
theorem cl_5_33 : j_cl 5 33 = some (1, 104) := by decide +kernel
theorem cl_5_37 : j_cl 5 37 = some (0, 108) := by decide +kernel
theorem f_5_41 : j_fl 5 41 = some (5, 2) := by decide +kernel
theorem cl_5_44 : j_cl 5 44 = some (0, 102) := by decide +kernel
theorem cl_5_48 : j_cl 5 48 = some (0, 115) := by decide +kernel
theorem f_5_51 : j_fl 5 51 = some (5, 8) := by decide +kernel
theorem cl_5_54 : j_cl 5 54 = some (0, 103) := by decide +kernel
theorem cl_5_57 : j_cl 5 57 = some (0, 106) := by decide +kernel
theorem cl_5_60 : j_cl 5 60 = some (0, 112) := by decide +kernel
theorem cl_5_64 : j_cl 5 64 = some (0, 119) := by decide +kernel
theorem cl_5_67 : j_cl 5 67 = some (0, 113) := by decide +kernel
theorem cl_5_71 : j_cl 5 71 = some (0, 109) := by decide +kernel
theorem cl_5_75 : j_cl 5 75 = some (1, 110) := by decide +kernel
theorem cl_5_78 : j_cl 5 78 = some (0, 120) := by decide +kernel
theorem cl_5_81 : j_cl 5 81 = some (0, 118) := by decide +kernel
theorem cl_5_85 : j_cl 5 85 = some (0, 107) := by decide +kernel
theorem c_bi13 : (Int8.ofInt (13)).toInt32 = (zN 13) := by decide +kernel
theorem cl_5_88 : j_cl 5 88 = some (0, 121) := by decide +kernel
theorem cl_5_91 : j_cl 5 91 = some (0, 114) := by decide +kernel
theorem cl_5_94 : j_cl 5 94 = some (0, 122) := by decide +kernel
theorem cl_5_98 : j_cl 5 98 = some (0, 116) := by decide +kernel
theorem cl_5_101 : j_cl 5 101 = some (0, 111) := by decide +kernel
theorem cl_5_104 : j_cl 5 104 = some (1, 128) := by decide +kernel
theorem cl_5_107 : j_cl 5 107 = some (0, 130) := by decide +kernel
theorem cl_5_110 : j_cl 5 110 = some (0, 123) := by decide +kernel
theorem cl_5_113 : j_cl 5 113 = some (0, 124) := by decide +kernel
theorem cl_5_116 : j_cl 5 116 = some (0, 125) := by decide +kernel
theorem cl_5_119 : j_cl 5 119 = some (0, 136) := by decide +kernel
theorem cl_5_122 : j_cl 5 122 = some (0, 138) := by decide +kernel
theorem cl_5_125 : j_cl 5 125 = some (0, 141) := by decide +kernel
theorem cl_5_129 : j_cl 5 129 = some (0, 142) := by decide +kernel
theorem cl_5_132 : j_cl 5 132 = some (0, 148) := by decide +kernel
theorem cl_5_135 : j_cl 5 135 = some (0, 147) := by decide +kernel
theorem cl_5_139 : j_cl 5 139 = some (0, 146) := by decide +kernel
theorem cl_5_143 : j_cl 5 143 = some (0, 149) := by decide +kernel
theorem cl_5_146 : j_cl 5 146 = some (0, 151) := by decide +kernel
theorem f_5_149 : j_fl 5 149 = some (5, 5) := by decide +kernel
theorem f_5_152 : j_fl 5 152 = some (5, 9) := by decide +kernel
theorem f_5_155 : j_fl 5 155 = some (5, 10) := by decide +kernel
theorem cl_5_158 : j_cl 5 158 = some (0, 158) := by decide +kernel
theorem cl_5_161 : j_cl 5 161 = some (0, 159) := by decide +kernel
theorem cl_5_164 : j_cl 5 164 = some (1, 162) := by decide +kernel
theorem f_5_167 : j_fl 5 167 = some (5, 11) := by decide +kernel
theorem cl_5_170 : j_cl 5 170 = some (0, 161) := by decide +kernel
theorem f_5_173 : j_fl 5 173 = some (5, 12) := by decide +kernel
theorem f_5_176 : j_fl 5 176 = some (5, 13) := by decide +kernel
theorem cl_5_179 : j_cl 5 179 = some (0, 160) := by decide +kernel
theorem cl_5_182 : j_cl 5 182 = some (0, 163) := by decide +kernel
theorem f_5_185 : j_fl 5 185 = some (5, 14) := by decide +kernel
theorem cl_5_188 : j_cl 5 188 = some (0, 164) := by decide +kernel
theorem cl_5_191 : j_cl 5 191 = some (0, 165) := by decide +kernel
theorem cl_5_194 : j_cl 5 194 = some (0, 166) := by decide +kernel
theorem kj_5_197 : j_kj 5 197 = some 31 := by decide +kernel
theorem f_5_199 : j_fl 5 199 = some (5, 15) := by decide +kernel
theorem kj_5_203 : j_kj 5 203 = some 3797 := by decide +kernel
theorem cl_5_205 : j_cl 5 205 = some (0, 168) := by decide +kernel
theorem ki_6_265 : j_ki 6 265 = some (zN 1431655765) := by decide +kernel
theorem ki_6_266 : j_ki 6 266 = some (zN 858993459) := by decide +kernel
theorem ki_6_267 : j_ki 6 267 = some (zN 252645135) := by decide +kernel
theorem c_bi16 : (Int8.ofInt (16)).toInt32 = (zN 16) := by decide +kernel
theorem c_bi63 : (Int8.ofInt (63)).toInt32 = (zN 63) := by decide +kernel
theorem cl_8_7 : j_cl 8 7 = some (0, 62) := by decide +kernel
theorem cl_8_15 : j_cl 8 15 = some (0, 63) := by decide +kernel
theorem cl_8_21 : j_cl 8 21 = some (0, 64) := by decide +kernel
theorem cl_8_27 : j_cl 8 27 = some (0, 66) := by decide +kernel
theorem cl_8_30 : j_cl 8 30 = some (0, 67) := by decide +kernel
theorem cl_8_33 : j_cl 8 33 = some (0, 68) := by decide +kernel
theorem cl_8_36 : j_cl 8 36 = some (0, 69) := by decide +kernel
theorem cl_8_40 : j_cl 8 40 = some (0, 70) := by decide +kernel
theorem cl_8_43 : j_cl 8 43 = some (0, 71) := by decide +kernel
theorem cl_8_46 : j_cl 8 46 = some (0, 72) := by decide +kernel
theorem cl_8_49 : j_cl 8 49 = some (0, 73) := by decide +kernel
theorem cl_8_52 : j_cl 8 52 = some (0, 74) := by decide +kernel
theorem cl_8_55 : j_cl 8 55 = some (0, 75) := by decide +kernel
theorem cl_8_58 : j_cl 8 58 = some (0, 76) := by decide +kernel
theorem cl_8_61 : j_cl 8 61 = some (0, 78) := by decide +kernel
theorem cl_8_64 : j_cl 8 64 = some (0, 81) := by decide +kernel
theorem cl_8_67 : j_cl 8 67 = some (0, 84) := by decide +kernel
theorem tl_8_8 : j_tl 8 8 = none := by decide +kernel
theorem ol_8_8 : j_ol 8 8 = some 4 := by decide +kernel
theorem cl_8_71 : j_cl 8 71 = some (3, 61) := by decide +kernel
theorem tl_8_72 : j_tl 8 72 = none := by decide +kernel
theorem ol_8_72 : j_ol 8 72 = some 5 := by decide +kernel
theorem cl_8_74 : j_cl 8 74 = some (3, 100) := by decide +kernel
theorem cl_8_75 : j_cl 8 75 = some (2, 171) := by decide +kernel
theorem cl_8_80 : j_cl 8 80 = some (0, 126) := by decide +kernel
theorem cl_8_81 : j_cl 8 81 = some (0, 101) := by decide +kernel
theorem cl_8_84 : j_cl 8 84 = some (2, 172) := by decide +kernel
theorem cl_8_87 : j_cl 8 87 = some (0, 127) := by decide +kernel
theorem cl_8_88 : j_cl 8 88 = some (2, 173) := by decide +kernel
theorem cl_8_91 : j_cl 8 91 = some (0, 129) := by decide +kernel
theorem cl_8_92 : j_cl 8 92 = some (0, 65) := by decide +kernel
theorem cl_8_95 : j_cl 8 95 = some (0, 131) := by decide +kernel
theorem cl_8_96 : j_cl 8 96 = some (2, 174) := by decide +kernel
theorem cl_8_98 : j_cl 8 98 = some (0, 132) := by decide +kernel
theorem cl_8_99 : j_cl 8 99 = some (2, 175) := by decide +kernel
theorem cl_8_101 : j_cl 8 101 = some (0, 133) := by decide +kernel
theorem cl_8_102 : j_cl 8 102 = some (2, 176) := by decide +kernel
theorem cl_8_104 : j_cl 8 104 = some (0, 134) := by decide +kernel
theorem cl_8_105 : j_cl 8 105 = some (2, 177) := by decide +kernel
theorem cl_8_108 : j_cl 8 108 = some (0, 135) := by decide +kernel
theorem cl_8_109 : j_cl 8 109 = some (2, 178) := by decide +kernel
theorem cl_8_111 : j_cl 8 111 = some (0, 137) := by decide +kernel
theorem cl_8_112 : j_cl 8 112 = some (2, 179) := by decide +kernel
theorem cl_8_114 : j_cl 8 114 = some (0, 139) := by decide +kernel
theorem cl_8_115 : j_cl 8 115 = some (2, 180) := by decide +kernel
theorem cl_8_117 : j_cl 8 117 = some (0, 140) := by decide +kernel
theorem cl_8_118 : j_cl 8 118 = some (2, 181) := by decide +kernel
theorem cl_8_120 : j_cl 8 120 = some (0, 143) := by decide +kernel
theorem cl_8_121 : j_cl 8 121 = some (2, 182) := by decide +kernel
theorem cl_8_123 : j_cl 8 123 = some (0, 144) := by decide +kernel
theorem cl_8_124 : j_cl 8 124 = some (2, 183) := by decide +kernel
theorem cl_8_126 : j_cl 8 126 = some (0, 145) := by decide +kernel
theorem cl_8_127 : j_cl 8 127 = some (2, 184) := by decide +kernel
theorem cl_8_129 : j_cl 8 129 = some (0, 150) := by decide +kernel
theorem cl_8_130 : j_cl 8 130 = some (0, 77) := by decide +kernel
theorem cl_8_133 : j_cl 8 133 = some (0, 152) := by decide +kernel
theorem cl_8_134 : j_cl 8 134 = some (2, 185) := by decide +kernel
theorem cl_8_136 : j_cl 8 136 = some (0, 153) := by decide +kernel
theorem cl_8_137 : j_cl 8 137 = some (0, 79) := by decide +kernel
theorem cl_8_140 : j_cl 8 140 = some (0, 154) := by decide +kernel
theorem cl_8_141 : j_cl 8 141 = some (0, 80) := by decide +kernel
theorem cl_8_145 : j_cl 8 145 = some (0, 155) := by decide +kernel
theorem cl_8_146 : j_cl 8 146 = some (2, 186) := by decide +kernel
theorem cl_8_148 : j_cl 8 148 = some (0, 156) := by decide +kernel
theorem cl_8_149 : j_cl 8 149 = some (0, 82) := by decide +kernel
theorem cl_8_152 : j_cl 8 152 = some (0, 157) := by decide +kernel
theorem cl_8_153 : j_cl 8 153 = some (0, 83) := by decide +kernel
theorem cl_8_156 : j_cl 8 156 = some (0, 167) := by decide +kernel
theorem cl_8_157 : j_cl 8 157 = some (2, 187) := by decide +kernel
theorem cl_8_160 : j_cl 8 160 = some (0, 117) := by decide +kernel
theorem cl_8_161 : j_cl 8 161 = some (0, 85) := by decide +kernel
theorem cl_8_165 : j_cl 8 165 = some (0, 169) := by decide +kernel
