/-! the methods and what their pools say, printed by wip/p27/gen25.py -/
def mtI_0 : jMe := (0, yX0_init, cX0_init, 1, none, 1, [])
theorem mt_0 : j_mt[0]? = some mtI_0 := rfl
def mtI_1 : jMe := (0, yX0_slot, cX0_slot, 1, (some .int), 1, [])
theorem mt_1 : j_mt[1]? = some mtI_1 := rfl
def mtI_2 : jMe := (0, yX0_restart, cX0_restart, 2, none, 2, [])
theorem mt_2 : j_mt[2]? = some mtI_2 := rfl
def mtI_3 : jMe := (0, yX0_copyFrom, cX0_copyFrom, 2, none, 2, [])
theorem mt_3 : j_mt[3]? = some mtI_3 := rfl
def mtI_4 : jMe := (0, yX0_kept, cX0_kept, 1, (some .int), 1, [])
theorem mt_4 : j_mt[4]? = some mtI_4 := rfl
def mtI_5 : jMe := (0, yX0_isFull, cX0_isFull, 1, (some .boolean), 1, [])
theorem mt_5 : j_mt[5]? = some mtI_5 := rfl
def mtI_6 : jMe := (0, yX0_isKept, cX0_isKept, 2, (some .boolean), 2, [])
theorem mt_6 : j_mt[6]? = some mtI_6 := rfl
def mtI_7 : jMe := (0, yX0_add, cX0_add, 7, (some .int), 5, [])
theorem mt_7 : j_mt[7]? = some mtI_7 := rfl
def mtI_8 : jMe := (0, yX0_kindAt, cX0_kindAt, 2, (some .int), 2, [])
theorem mt_8 : j_mt[8]? = some mtI_8 := rfl
def mtI_9 : jMe := (0, yX0_holdAAt, cX0_holdAAt, 2, (some .int), 2, [])
theorem mt_9 : j_mt[9]? = some mtI_9 := rfl
def mtI_10 : jMe := (0, yX0_holdBAt, cX0_holdBAt, 2, (some .int), 2, [])
theorem mt_10 : j_mt[10]? = some mtI_10 := rfl
def mtI_11 : jMe := (0, yX0_amountAt, cX0_amountAt, 2, (some .int), 2, [])
theorem mt_11 : j_mt[11]? = some mtI_11 := rfl
def mtI_12 : jMe := (0, yX0_spoiledAt, cX0_spoiledAt, 2, (some .int), 2, [])
theorem mt_12 : j_mt[12]? = some mtI_12 := rfl
def mtI_13 : jMe := (0, yX0_canBeRead, cX0_canBeRead, 2, (some .boolean), 2, [])
theorem mt_13 : j_mt[13]? = some mtI_13 := rfl
def mtI_14 : jMe := (0, yX0_spoilCopy, cX0_spoilCopy, 4, (some .int), 3, [])
theorem mt_14 : j_mt[14]? = some mtI_14 := rfl
def mtI_15 : jMe := (0, yX0_repairOrder, cX0_repairOrder, 4, (some .int), 2, [])
theorem mt_15 : j_mt[15]? = some mtI_15 := rfl
def mtI_16 : jMe := (0, yX0_spoiledCopies, cX0_spoiledCopies, 3, (some .int), 1, [])
theorem mt_16 : j_mt[16]? = some mtI_16 := rfl
def mtI_17 : jMe := (0, yX0_unreadableOrders, cX0_unreadableOrders, 3, (some .int), 1, [])
theorem mt_17 : j_mt[17]? = some mtI_17 := rfl
def mtI_18 : jMe := (0, yX0_firstUnreadable, cX0_firstUnreadable, 3, (some .int), 2, [])
theorem mt_18 : j_mt[18]? = some mtI_18 := rfl
def mtI_19 : jMe := (0, yX0_replayOn, cX0_replayOn, 5, (some .boolean), 4, [])
theorem mt_19 : j_mt[19]? = some mtI_19 := rfl
def mtI_20 : jMe := (0, yX0_replayOne, cX0_replayOne, 7, none, 3, [])
theorem mt_20 : j_mt[20]? = some mtI_20 := rfl
def mtI_21 : jMe := (0, yX0_moveTons, cX0_moveTons, 5, none, 4, [])
theorem mt_21 : j_mt[21]? = some mtI_21 := rfl
def mtI_22 : jMe := (0, yX0_swapTons, cX0_swapTons, 4, none, 3, [])
theorem mt_22 : j_mt[22]? = some mtI_22 := rfl
def mtI_23 : jMe := (0, yX0_levelTons, cX0_levelTons, 4, none, 3, [])
theorem mt_23 : j_mt[23]? = some mtI_23 := rfl
def mtI_24 : jMe := (1, yX1_init, cX1_init, 1, none, 1, [])
theorem mt_24 : j_mt[24]? = some mtI_24 := rfl
def mtI_25 : jMe := (1, yX1_restart, cX1_restart, 2, none, 1, [])
theorem mt_25 : j_mt[25]? = some mtI_25 := rfl
def mtI_26 : jMe := (1, yX1_copyFrom, cX1_copyFrom, 2, none, 2, [])
theorem mt_26 : j_mt[26]? = some mtI_26 := rfl
def mtI_27 : jMe := (1, yX1_keepSnapshot, cX1_keepSnapshot, 1, none, 1, [])
theorem mt_27 : j_mt[27]? = some mtI_27 := rfl
def mtI_28 : jMe := (1, yX1_fallBack, cX1_fallBack, 2, (some .int), 1, [])
theorem mt_28 : j_mt[28]? = some mtI_28 := rfl
def mtI_29 : jMe := (1, yX1_sumOfTons, cX1_sumOfTons, 3, (some .int), 1, [])
theorem mt_29 : j_mt[29]? = some mtI_29 := rfl
def mtI_30 : jMe := (1, yX1_hasHolds, cX1_hasHolds, 3, (some .boolean), 2, [])
theorem mt_30 : j_mt[30]? = some mtI_30 := rfl
def mtI_31 : jMe := (2, yX2_init, cX2_init, 1, none, 1, [])
theorem mt_31 : j_mt[31]? = some mtI_31 := rfl
def mtI_32 : jMe := (2, yX2_restart, cX2_restart, 2, none, 2, [])
theorem mt_32 : j_mt[32]? = some mtI_32 := rfl
def mtI_33 : jMe := (2, yX2_copyFrom, cX2_copyFrom, 2, none, 2, [])
theorem mt_33 : j_mt[33]? = some mtI_33 := rfl
def mtI_34 : jMe := (2, yX2_shipOf, cX2_shipOf, 2, (some (.object "ShipJournal$Ship")), 2, [])
theorem mt_34 : j_mt[34]? = some mtI_34 := rfl
def mtI_35 : jMe := (2, yX2_otherThan, cX2_otherThan, 2, (some (.object "ShipJournal$Ship")), 2, [])
theorem mt_35 : j_mt[35]? = some mtI_35 := rfl
def mtI_36 : jMe := (2, yX2_shipBehind, cX2_shipBehind, 1, (some (.object "ShipJournal$Ship")), 1, [])
theorem mt_36 : j_mt[36]? = some mtI_36 := rfl
def mtI_37 : jMe := (2, yX2_slowerSnapshot, cX2_slowerSnapshot, 1, (some (.object "ShipJournal$Ship")), 1, [])
theorem mt_37 : j_mt[37]? = some mtI_37 := rfl
def mtI_38 : jMe := (2, yX2_linksUp, cX2_linksUp, 1, (some .int), 1, [])
theorem mt_38 : j_mt[38]? = some mtI_38 := rfl
def mtI_39 : jMe := (2, yX2_replayedBy, cX2_replayedBy, 2, (some .int), 2, [])
theorem mt_39 : j_mt[39]? = some mtI_39 := rfl
def mtI_40 : jMe := (2, yX2_replayOrders, cX2_replayOrders, 4, (some .int), 3, [])
theorem mt_40 : j_mt[40]? = some mtI_40 := rfl
def mtI_41 : jMe := (2, yX2_canReplay, cX2_canReplay, 2, (some .boolean), 2, [])
theorem mt_41 : j_mt[41]? = some mtI_41 := rfl
def mtI_42 : jMe := (2, yX2_takeSnapshot, cX2_takeSnapshot, 3, (some .int), 2, [])
theorem mt_42 : j_mt[42]? = some mtI_42 := rfl
def mtI_43 : jMe := (2, yX2_repairCopies, cX2_repairCopies, 3, (some .int), 1, [])
theorem mt_43 : j_mt[43]? = some mtI_43 := rfl
def mtI_44 : jMe := (2, yX2_canRepair, cX2_canRepair, 2, (some .boolean), 2, [])
theorem mt_44 : j_mt[44]? = some mtI_44 := rfl
def mtI_45 : jMe := (2, yX2_knowsOrder, cX2_knowsOrder, 2, (some .boolean), 2, [])
theorem mt_45 : j_mt[45]? = some mtI_45 := rfl
def mtI_46 : jMe := (3, yX3_init, cX3_init, 1, none, 1, [])
theorem mt_46 : j_mt[46]? = some mtI_46 := rfl
def mtI_47 : jMe := (3, yX3_isFull, cX3_isFull, 1, (some .boolean), 1, [])
theorem mt_47 : j_mt[47]? = some mtI_47 := rfl
def mtI_48 : jMe := (3, yX3_add, cX3_add, 2, (some .int), 2, [])
theorem mt_48 : j_mt[48]? = some mtI_48 := rfl
def mtI_49 : jMe := (3, yX3_clear, cX3_clear, 2, (some .int), 1, [])
theorem mt_49 : j_mt[49]? = some mtI_49 := rfl
def mtI_50 : jMe := (3, yX3_byteAt, cX3_byteAt, 2, (some .int), 2, [])
theorem mt_50 : j_mt[50]? = some mtI_50 := rfl
def mtI_51 : jMe := (3, yX3_goToStart, cX3_goToStart, 1, none, 1, [])
theorem mt_51 : j_mt[51]? = some mtI_51 := rfl
def mtI_52 : jMe := (3, yX3_isAtEnd, cX3_isAtEnd, 1, (some .boolean), 1, [])
theorem mt_52 : j_mt[52]? = some mtI_52 := rfl
def mtI_53 : jMe := (3, yX3_findSyntaxError, cX3_findSyntaxError, 2, (some .int), 1, [])
theorem mt_53 : j_mt[53]? = some mtI_53 := rfl
def mtI_54 : jMe := (3, yX3_readCommand, cX3_readCommand, 1, (some .boolean), 1, [])
theorem mt_54 : j_mt[54]? = some mtI_54 := rfl
def mtI_55 : jMe := (3, yX3_readSign, cX3_readSign, 2, (some .boolean), 2, [])
theorem mt_55 : j_mt[55]? = some mtI_55 := rfl
def mtI_56 : jMe := (3, yX3_readFirst, cX3_readFirst, 2, (some .boolean), 2, [])
theorem mt_56 : j_mt[56]? = some mtI_56 := rfl
def mtI_57 : jMe := (3, yX3_readSecond, cX3_readSecond, 2, (some .boolean), 2, [])
theorem mt_57 : j_mt[57]? = some mtI_57 := rfl
def mtI_58 : jMe := (3, yX3_readDigit, cX3_readDigit, 3, (some .int), 2, [])
theorem mt_58 : j_mt[58]? = some mtI_58 := rfl
def mtI_59 : jMe := (3, yX3_readNumber, cX3_readNumber, 3, (some .boolean), 1, [])
theorem mt_59 : j_mt[59]? = some mtI_59 := rfl
def mtI_60 : jMe := (3, yX3_isDigit, cX3_isDigit, 1, (some .boolean), 1, [])
theorem mt_60 : j_mt[60]? = some mtI_60 := rfl
def mtI_61 : jMe := (4, yX4_init, cX4_init, 2, none, 1, [])
theorem mt_61 : j_mt[61]? = some mtI_61 := rfl
def mtI_62 : jMe := (4, yX4_begin, cX4_begin, 3, (some .int), 2, [])
theorem mt_62 : j_mt[62]? = some mtI_62 := rfl
def mtI_63 : jMe := (4, yX4_write, cX4_write, 5, (some .int), 5, [])
theorem mt_63 : j_mt[63]? = some mtI_63 := rfl
def mtI_64 : jMe := (4, yX4_spoil, cX4_spoil, 3, (some .int), 3, [])
theorem mt_64 : j_mt[64]? = some mtI_64 := rfl
def mtI_65 : jMe := (4, yX4_repair, cX4_repair, 1, (some .int), 1, [])
theorem mt_65 : j_mt[65]? = some mtI_65 := rfl
def mtI_66 : jMe := (4, yX4_replay, cX4_replay, 3, (some .int), 3, [])
theorem mt_66 : j_mt[66]? = some mtI_66 := rfl
def mtI_67 : jMe := (4, yX4_snapshot, cX4_snapshot, 2, (some .int), 2, [])
theorem mt_67 : j_mt[67]? = some mtI_67 := rfl
def mtI_68 : jMe := (4, yX4_crash, cX4_crash, 2, (some .int), 2, [])
theorem mt_68 : j_mt[68]? = some mtI_68 := rfl
def mtI_69 : jMe := (4, yX4_link, cX4_link, 3, (some .int), 3, [])
theorem mt_69 : j_mt[69]? = some mtI_69 := rfl
def mtI_70 : jMe := (4, yX4_order, cX4_order, 3, (some .int), 3, [])
theorem mt_70 : j_mt[70]? = some mtI_70 := rfl
def mtI_71 : jMe := (4, yX4_ship, cX4_ship, 4, (some .int), 3, [])
theorem mt_71 : j_mt[71]? = some mtI_71 := rfl
def mtI_72 : jMe := (4, yX4_hold, cX4_hold, 3, (some .int), 3, [])
theorem mt_72 : j_mt[72]? = some mtI_72 := rfl
def mtI_73 : jMe := (4, yX4_value, cX4_value, 2, (some .int), 2, [])
theorem mt_73 : j_mt[73]? = some mtI_73 := rfl
def mtI_74 : jMe := (4, yX4_ahead, cX4_ahead, 3, (some .int), 2, [])
theorem mt_74 : j_mt[74]? = some mtI_74 := rfl
def mtI_75 : jMe := (4, yX4_stop, cX4_stop, 2, (some .int), 2, [])
theorem mt_75 : j_mt[75]? = some mtI_75 := rfl
def mtI_76 : jMe := (4, yX4_tonsAt, cX4_tonsAt, 5, (some .int), 3, [])
theorem mt_76 : j_mt[76]? = some mtI_76 := rfl
def mtI_77 : jMe := (4, yX4_agree, cX4_agree, 3, (some .int), 1, [])
theorem mt_77 : j_mt[77]? = some mtI_77 := rfl
def mtI_78 : jMe := (4, yX4_roomBy, cX4_roomBy, 4, (some .int), 2, [])
theorem mt_78 : j_mt[78]? = some mtI_78 := rfl
def mtI_79 : jMe := (4, yX4_slower, cX4_slower, 1, (some .int), 1, [])
theorem mt_79 : j_mt[79]? = some mtI_79 := rfl
def mtI_80 : jMe := (4, yX4_clearText, cX4_clearText, 1, (some .int), 1, [])
theorem mt_80 : j_mt[80]? = some mtI_80 := rfl
def mtI_81 : jMe := (4, yX4_append, cX4_append, 2, (some .int), 2, [])
theorem mt_81 : j_mt[81]? = some mtI_81 := rfl
def mtI_82 : jMe := (4, yX4_clearText, cX4_clearText, 1, (some .int), 1, [])
theorem mt_82 : j_mt[82]? = some mtI_82 := rfl
def mtI_83 : jMe := (4, yX4_carryOut, cX4_carryOut, 3, (some .int), 1, [])
theorem mt_83 : j_mt[83]? = some mtI_83 := rfl
def mtI_84 : jMe := (4, yX4_undo, cX4_undo, 1, (some .int), 1, [])
theorem mt_84 : j_mt[84]? = some mtI_84 := rfl
def mtI_85 : jMe := (4, yX4_digest, cX4_digest, 4, (some .long), 1, [])
theorem mt_85 : j_mt[85]? = some mtI_85 := rfl
def mtI_86 : jMe := (4, yX4_mix, cX4_mix, 4, (some .long), 2, [])
theorem mt_86 : j_mt[86]? = some mtI_86 := rfl
def mtI_87 : jMe := (4, yX4_mixOrders, cX4_mixOrders, 7, (some .long), 2, [])
theorem mt_87 : j_mt[87]? = some mtI_87 := rfl
def mtI_88 : jMe := (4, yX4_mixShips, cX4_mixShips, 7, (some .long), 2, [])
theorem mt_88 : j_mt[88]? = some mtI_88 := rfl
def mtI_89 : jMe := (4, yX4_mixForecasts, cX4_mixForecasts, 6, (some .long), 2, [])
theorem mt_89 : j_mt[89]? = some mtI_89 := rfl
def mtI_90 : jMe := (4, yX4_isOrder, cX4_isOrder, 4, (some .boolean), 4, [])
theorem mt_90 : j_mt[90]? = some mtI_90 := rfl
def mtI_91 : jMe := (4, yX4_usesHoldB, cX4_usesHoldB, 1, (some .boolean), 1, [])
theorem mt_91 : j_mt[91]? = some mtI_91 := rfl
def mtI_92 : jMe := (4, yX4_isHold, cX4_isHold, 1, (some .boolean), 1, [])
theorem mt_92 : j_mt[92]? = some mtI_92 := rfl
def mtI_93 : jMe := (4, yX4_requireHold, cX4_requireHold, 1, none, 1, [])
theorem mt_93 : j_mt[93]? = some mtI_93 := rfl
def mtI_94 : jMe := (4, yX4_requireShip, cX4_requireShip, 1, none, 1, [])
theorem mt_94 : j_mt[94]? = some mtI_94 := rfl
def mtI_95 : jMe := (4, yX4_requireKept, cX4_requireKept, 2, none, 2, [])
theorem mt_95 : j_mt[95]? = some mtI_95 := rfl
def mtI_96 : jMe := (4, yX4_saveState, cX4_saveState, 3, none, 1, [])
theorem mt_96 : j_mt[96]? = some mtI_96 := rfl
def mtI_97 : jMe := (4, yX4_obeyCommand, cX4_obeyCommand, 1, (some .boolean), 1, [])
theorem mt_97 : j_mt[97]? = some mtI_97 := rfl
def mtI_98 : jMe := (4, yX4_obeyWrite, cX4_obeyWrite, 2, (some .boolean), 2, [])
theorem mt_98 : j_mt[98]? = some mtI_98 := rfl
def mtI_99 : jMe := (4, yX4_obeySnapshot, cX4_obeySnapshot, 2, (some .boolean), 1, [])
theorem mt_99 : j_mt[99]? = some mtI_99 := rfl
def mtI_100 : jMe := (6, yJ6_bitCount_0f7a4, cJ6_bitCount_0f7a4, 1, (some .int), 1, [])
theorem mt_100 : j_mt[100]? = some mtI_100 := rfl
def mtI_101 : jMe := (8, yL_cell, cL_cell, 2, (some .int), 2, [])
theorem mt_101 : j_mt[101]? = some mtI_101 := rfl
def mtI_102 : jMe := (8, yL_begin, cL_begin, 3, (some .int), 2, [(0, 5, 6, 15)])
theorem mt_102 : j_mt[102]? = some mtI_102 := rfl
def mtI_103 : jMe := (8, yL_write, cL_write, 6, (some .int), 5, [(0, 9, 10, 15), (0, 9, 15, 21)])
theorem mt_103 : j_mt[103]? = some mtI_103 := rfl
def mtI_104 : jMe := (8, yL_spoil, cL_spoil, 4, (some .int), 3, [(0, 6, 7, 27), (0, 6, 11, 15)])
theorem mt_104 : j_mt[104]? = some mtI_104 := rfl
def mtI_105 : jMe := (8, yL_replay, cL_replay, 4, (some .int), 3, [(0, 6, 7, 27), (0, 6, 11, 15)])
theorem mt_105 : j_mt[105]? = some mtI_105 := rfl
def mtI_106 : jMe := (8, yL_snapshot, cL_snapshot, 3, (some .int), 2, [(0, 5, 6, 27), (0, 5, 10, 21)])
theorem mt_106 : j_mt[106]? = some mtI_106 := rfl
def mtI_107 : jMe := (8, yL_crash, cL_crash, 3, (some .int), 2, [(0, 5, 6, 27)])
theorem mt_107 : j_mt[107]? = some mtI_107 := rfl
def mtI_108 : jMe := (8, yL_link, cL_link, 4, (some .int), 3, [(0, 6, 7, 27), (0, 6, 11, 21)])
theorem mt_108 : j_mt[108]? = some mtI_108 := rfl
def mtI_109 : jMe := (8, yL_order, cL_order, 4, (some .int), 3, [(0, 6, 7, 27), (0, 6, 11, 15)])
theorem mt_109 : j_mt[109]? = some mtI_109 := rfl
def mtI_110 : jMe := (8, yL_ship, cL_ship, 4, (some .int), 3, [(0, 6, 7, 27), (0, 6, 11, 15)])
theorem mt_110 : j_mt[110]? = some mtI_110 := rfl
def mtI_111 : jMe := (8, yL_hold, cL_hold, 4, (some .int), 3, [(0, 6, 7, 27)])
theorem mt_111 : j_mt[111]? = some mtI_111 := rfl
def mtI_112 : jMe := (8, yL_value, cL_value, 3, (some .int), 2, [(0, 5, 6, 15)])
theorem mt_112 : j_mt[112]? = some mtI_112 := rfl
def mtI_113 : jMe := (8, yL_ahead, cL_ahead, 3, (some .int), 2, [(0, 5, 6, 27)])
theorem mt_113 : j_mt[113]? = some mtI_113 := rfl
def mtI_114 : jMe := (8, yL_stop, cL_stop, 3, (some .int), 2, [(0, 5, 6, 27)])
theorem mt_114 : j_mt[114]? = some mtI_114 := rfl
def mtI_115 : jMe := (8, yL_tonsAt, cL_tonsAt, 4, (some .int), 3, [(0, 6, 7, 27)])
theorem mt_115 : j_mt[115]? = some mtI_115 := rfl
def mtI_116 : jMe := (8, yL_roomBy, cL_roomBy, 3, (some .int), 2, [(0, 5, 6, 27)])
theorem mt_116 : j_mt[116]? = some mtI_116 := rfl
def mtI_117 : jMe := (8, yL_append, cL_append, 3, (some .int), 2, [(0, 5, 6, 15), (0, 5, 10, 21)])
theorem mt_117 : j_mt[117]? = some mtI_117 := rfl
def mtI_118 : jMe := (8, yL_undo, cL_undo, 2, (some .int), 1, [(0, 4, 5, 21)])
theorem mt_118 : j_mt[118]? = some mtI_118 := rfl
def mtI_119 : jMe := (8, yL_lesser, cL_lesser, 2, (some .int), 2, [])
theorem mt_119 : j_mt[119]? = some mtI_119 := rfl
def mtI_120 : jMe := (8, yL_isSound, cL_isSound, 12, (some .boolean), 1, [])
theorem mt_120 : j_mt[120]? = some mtI_120 := rfl
def mtI_121 : jMe := (8, yL_replays, cL_replays, 10, (some .boolean), 3, [])
theorem mt_121 : j_mt[121]? = some mtI_121 := rfl
def mtI_122 : jMe := (8, yL_snaps, cL_snaps, 5, (some .boolean), 2, [])
theorem mt_122 : j_mt[122]? = some mtI_122 := rfl
def mtI_123 : jMe := (8, yL_links, cL_links, 3, (some .boolean), 2, [])
theorem mt_123 : j_mt[123]? = some mtI_123 := rfl
def mtI_124 : jMe := (8, yL_carries, cL_carries, 11, (some .boolean), 5, [])
theorem mt_124 : j_mt[124]? = some mtI_124 := rfl
def mtI_125 : jMe := (8, yL_refuses, cL_refuses, 5, (some .boolean), 1, [])
theorem mt_125 : j_mt[125]? = some mtI_125 := rfl
def mtI_126 : jMe := (8, yL_acts, cL_acts, 6, (some .boolean), 2, [])
theorem mt_126 : j_mt[126]? = some mtI_126 := rfl
def mtI_127 : jMe := (8, yL_law, cL_law, 4, (some .boolean), 1, [])
theorem mt_127 : j_mt[127]? = some mtI_127 := rfl
theorem zN_fb {a : Nat} (h : a < 2) : fits (j_ty 1 2) (.int (zN a)) = true := by
  obtain rfl | rfl : a = 0 ∨ a = 1 := by omega
  · decide +kernel
  · decide +kernel
theorem cl_0_3 : j_cl 0 3 = some (6, 0) := by decide +kernel
theorem c_bi32 : (Int8.ofInt (32)).toInt32 = (zN 32) := by decide +kernel
theorem f_0_9 : j_fl 0 9 = some (0, 3) := by decide +kernel
theorem f_0_15 : j_fl 0 15 = some (0, 4) := by decide +kernel
theorem f_0_18 : j_fl 0 18 = some (0, 5) := by decide +kernel
theorem f_0_21 : j_fl 0 21 = some (0, 6) := by decide +kernel
theorem f_0_24 : j_fl 0 24 = some (0, 7) := by decide +kernel
theorem c_bi31 : (Int8.ofInt (31)).toInt32 = (zN 31) := by decide +kernel
theorem f_0_27 : j_fl 0 27 = some (0, 0) := by decide +kernel
theorem c_ic0 : Int32.ofInt (0) = (zN 0) := by decide +kernel
theorem f_0_31 : j_fl 0 31 = some (0, 1) := by decide +kernel
theorem f_0_34 : j_fl 0 34 = some (0, 2) := by decide +kernel
theorem cl_0_37 : j_cl 0 37 = some (7, 0) := by decide +kernel
theorem cl_0_43 : j_cl 0 43 = some (0, 4) := by decide +kernel
theorem c_ic1 : Int32.ofInt (1) = (zN 1) := by decide +kernel
theorem cl_0_47 : j_cl 0 47 = some (1, 1) := by decide +kernel
theorem cl_0_51 : j_cl 0 51 = some (5, 91) := by decide +kernel
theorem cl_0_55 : j_cl 0 55 = some (0, 12) := by decide +kernel
theorem c_ic3 : Int32.ofInt (3) = (zN 3) := by decide +kernel
theorem cl_0_58 : j_cl 0 58 = some (1, 100) := by decide +kernel
theorem cl_0_63 : j_cl 0 63 = some (0, 13) := by decide +kernel
theorem cl_0_66 : j_cl 0 66 = some (0, 20) := by decide +kernel
theorem c_si999 : (Int16.ofInt (999)).toInt32 = (zN 999) := by decide +kernel
theorem cl_0_70 : j_cl 0 70 = some (9, 0) := by decide +kernel
theorem cl_0_76 : j_cl 0 76 = some (8, 0) := by decide +kernel
theorem cl_0_79 : j_cl 0 79 = some (1, 21) := by decide +kernel
theorem cl_0_83 : j_cl 0 83 = some (1, 22) := by decide +kernel
theorem cl_0_87 : j_cl 0 87 = some (1, 23) := by decide +kernel
theorem c_ic2 : Int32.ofInt (2) = (zN 2) := by decide +kernel
theorem cl_1_3 : j_cl 1 3 = some (6, 0) := by decide +kernel
theorem c_bi8 : (Int8.ofInt (8)).toInt32 = (zN 8) := by decide +kernel
theorem f_1_9 : j_fl 1 9 = some (1, 5) := by decide +kernel
theorem f_1_15 : j_fl 1 15 = some (1, 6) := by decide +kernel
theorem f_1_18 : j_fl 1 18 = some (1, 0) := by decide +kernel
theorem f_1_22 : j_fl 1 22 = some (1, 1) := by decide +kernel
theorem f_1_25 : j_fl 1 25 = some (1, 2) := by decide +kernel
theorem f_1_29 : j_fl 1 29 = some (1, 3) := by decide +kernel
theorem f_1_32 : j_fl 1 32 = some (1, 4) := by decide +kernel
theorem cl_1_35 : j_cl 1 35 = some (7, 0) := by decide +kernel
theorem cl_2_3 : j_cl 2 3 = some (6, 0) := by decide +kernel
theorem tl_2_9 : j_tl 2 9 = none := by decide +kernel
theorem ol_2_9 : j_ol 2 9 = some 0 := by decide +kernel
theorem cl_2_11 : j_cl 2 11 = some (4, 0) := by decide +kernel
theorem f_2_12 : j_fl 2 12 = some (2, 0) := by decide +kernel
theorem tl_2_18 : j_tl 2 18 = none := by decide +kernel
theorem ol_2_18 : j_ol 2 18 = some 1 := by decide +kernel
theorem cl_2_20 : j_cl 2 20 = some (4, 24) := by decide +kernel
theorem f_2_21 : j_fl 2 21 = some (2, 1) := by decide +kernel
theorem f_2_25 : j_fl 2 25 = some (2, 2) := by decide +kernel
theorem cl_2_28 : j_cl 2 28 = some (0, 32) := by decide +kernel
theorem cl_2_32 : j_cl 2 32 = some (0, 2) := by decide +kernel
theorem cl_2_33 : j_cl 2 33 = some (0, 25) := by decide +kernel
theorem f_2_35 : j_fl 2 35 = some (2, 3) := by decide +kernel
theorem cl_2_39 : j_cl 2 39 = some (0, 3) := by decide +kernel
theorem cl_2_43 : j_cl 2 43 = some (0, 26) := by decide +kernel
theorem f_2_46 : j_fl 2 46 = some (1, 0) := by decide +kernel
theorem f_2_49 : j_fl 2 49 = some (1, 1) := by decide +kernel
theorem f_2_52 : j_fl 2 52 = some (1, 2) := by decide +kernel
theorem cl_2_56 : j_cl 2 56 = some (0, 41) := by decide +kernel
theorem f_2_60 : j_fl 2 60 = some (1, 5) := by decide +kernel
theorem cl_2_64 : j_cl 2 64 = some (0, 20) := by decide +kernel
theorem f_2_68 : j_fl 2 68 = some (1, 3) := by decide +kernel
theorem cl_2_71 : j_cl 2 71 = some (0, 6) := by decide +kernel
theorem cl_2_75 : j_cl 2 75 = some (0, 13) := by decide +kernel
theorem cl_2_78 : j_cl 2 78 = some (0, 27) := by decide +kernel
theorem f_2_81 : j_fl 2 81 = some (0, 1) := by decide +kernel
theorem cl_2_84 : j_cl 2 84 = some (0, 37) := by decide +kernel
theorem f_2_88 : j_fl 2 88 = some (0, 2) := by decide +kernel
theorem cl_2_91 : j_cl 2 91 = some (0, 44) := by decide +kernel
theorem cl_2_94 : j_cl 2 94 = some (0, 15) := by decide +kernel
theorem cl_2_98 : j_cl 2 98 = some (1, 45) := by decide +kernel
theorem cl_3_3 : j_cl 3 3 = some (6, 0) := by decide +kernel
theorem f_3_9 : j_fl 3 9 = some (3, 0) := by decide +kernel
theorem c_bi100 : (Int8.ofInt (100)).toInt32 = (zN 100) := by decide +kernel
theorem f_3_15 : j_fl 3 15 = some (3, 1) := by decide +kernel
theorem f_3_19 : j_fl 3 19 = some (3, 2) := by decide +kernel
theorem c_icm1 : Int32.ofInt (-1) = (zM 0) := by decide +kernel
theorem f_3_22 : j_fl 3 22 = some (3, 3) := by decide +kernel
theorem f_3_25 : j_fl 3 25 = some (3, 4) := by decide +kernel
theorem f_3_28 : j_fl 3 28 = some (3, 5) := by decide +kernel
theorem f_3_31 : j_fl 3 31 = some (3, 6) := by decide +kernel
theorem cl_3_34 : j_cl 3 34 = some (0, 51) := by decide +kernel
theorem cl_3_37 : j_cl 3 37 = some (0, 52) := by decide +kernel
theorem cl_3_41 : j_cl 3 41 = some (0, 54) := by decide +kernel
theorem cl_3_44 : j_cl 3 44 = some (0, 50) := by decide +kernel
theorem cl_3_48 : j_cl 3 48 = some (0, 55) := by decide +kernel
theorem cl_3_52 : j_cl 3 52 = some (0, 56) := by decide +kernel
theorem c_bi44 : (Int8.ofInt (44)).toInt32 = (zN 44) := by decide +kernel
theorem cl_3_55 : j_cl 3 55 = some (0, 59) := by decide +kernel
theorem c_bi59 : (Int8.ofInt (59)).toInt32 = (zN 59) := by decide +kernel
theorem cl_3_58 : j_cl 3 58 = some (0, 57) := by decide +kernel
theorem cl_3_61 : j_cl 3 61 = some (0, 58) := by decide +kernel
theorem c_bi48 : (Int8.ofInt (48)).toInt32 = (zN 48) := by decide +kernel
theorem cl_3_64 : j_cl 3 64 = some (1, 60) := by decide +kernel
theorem c_bi10 : (Int8.ofInt (10)).toInt32 = (zN 10) := by decide +kernel
theorem c_bi57 : (Int8.ofInt (57)).toInt32 = (zN 57) := by decide +kernel
theorem cl_4_1 : j_cl 4 1 = some (6, 0) := by decide +kernel
theorem tl_4_7 : j_tl 4 7 = none := by decide +kernel
theorem ol_4_7 : j_ol 4 7 = some 2 := by decide +kernel
theorem cl_4_9 : j_cl 4 9 = some (3, 31) := by decide +kernel
theorem f_4_10 : j_fl 4 10 = some (4, 0) := by decide +kernel
theorem c_ic4 : Int32.ofInt (4) = (zN 4) := by decide +kernel
theorem f_4_16 : j_fl 4 16 = some (4, 1) := by decide +kernel
theorem f_4_20 : j_fl 4 20 = some (4, 2) := by decide +kernel
theorem tl_4_24 : j_tl 4 24 = none := by decide +kernel
theorem ol_4_24 : j_ol 4 24 = some 3 := by decide +kernel
theorem cl_4_26 : j_cl 4 26 = some (4, 46) := by decide +kernel
theorem f_4_27 : j_fl 4 27 = some (4, 3) := by decide +kernel
theorem f_4_31 : j_fl 4 31 = some (4, 4) := by decide +kernel
theorem tl_4_35 : j_tl 4 35 = some ("java/lang/IllegalArgumentException", 39) := by decide +kernel
theorem sr_4_37 : (j_sr 4 37).isSome = true := by decide +kernel
theorem cl_4_42 : j_cl 4 42 = some (0, 96) := by decide +kernel
theorem f_4_45 : j_fl 4 45 = some (2, 0) := by decide +kernel
theorem cl_4_49 : j_cl 4 49 = some (0, 4) := by decide +kernel
theorem cl_4_55 : j_cl 4 55 = some (0, 32) := by decide +kernel
theorem cl_4_59 : j_cl 4 59 = some (1, 90) := by decide +kernel
theorem sr_4_63 : (j_sr 4 63).isSome = true := by decide +kernel
theorem cl_4_65 : j_cl 4 65 = some (0, 5) := by decide +kernel
theorem tl_4_69 : j_tl 4 69 = some ("java/lang/IllegalStateException", 73) := by decide +kernel
theorem sr_4_71 : (j_sr 4 71).isSome = true := by decide +kernel
theorem cl_4_74 : j_cl 4 74 = some (0, 7) := by decide +kernel
theorem cl_4_78 : j_cl 4 78 = some (0, 95) := by decide +kernel
theorem sr_4_81 : (j_sr 4 81).isSome = true := by decide +kernel
theorem cl_4_83 : j_cl 4 83 = some (0, 14) := by decide +kernel
theorem cl_4_87 : j_cl 4 87 = some (0, 43) := by decide +kernel
theorem cl_4_90 : j_cl 4 90 = some (1, 94) := by decide +kernel
theorem c_bi99 : (Int8.ofInt (99)).toInt32 = (zN 99) := by decide +kernel
theorem sr_4_93 : (j_sr 4 93).isSome = true := by decide +kernel
theorem cl_4_95 : j_cl 4 95 = some (0, 34) := by decide +kernel
theorem cl_4_99 : j_cl 4 99 = some (0, 40) := by decide +kernel
theorem f_4_103 : j_fl 4 103 = some (1, 2) := by decide +kernel
theorem sr_4_109 : (j_sr 4 109).isSome = true := by decide +kernel
theorem cl_4_111 : j_cl 4 111 = some (0, 42) := by decide +kernel
theorem cl_4_115 : j_cl 4 115 = some (0, 28) := by decide +kernel
theorem sr_4_118 : (j_sr 4 118).isSome = true := by decide +kernel
theorem cl_4_120 : j_cl 4 120 = some (0, 38) := by decide +kernel
theorem cl_4_123 : j_cl 4 123 = some (0, 8) := by decide +kernel
theorem cl_4_127 : j_cl 4 127 = some (0, 9) := by decide +kernel
theorem cl_4_130 : j_cl 4 130 = some (0, 10) := by decide +kernel
theorem cl_4_133 : j_cl 4 133 = some (0, 11) := by decide +kernel
theorem cl_4_136 : j_cl 4 136 = some (0, 12) := by decide +kernel
theorem cl_4_139 : j_cl 4 139 = some (0, 39) := by decide +kernel
theorem sr_4_142 : (j_sr 4 142).isSome = true := by decide +kernel
theorem f_4_144 : j_fl 4 144 = some (1, 0) := by decide +kernel
theorem f_4_147 : j_fl 4 147 = some (1, 1) := by decide +kernel
theorem cl_4_150 : j_cl 4 150 = some (0, 29) := by decide +kernel
theorem f_4_153 : j_fl 4 153 = some (1, 3) := by decide +kernel
theorem f_4_156 : j_fl 4 156 = some (1, 4) := by decide +kernel
theorem sr_4_159 : (j_sr 4 159).isSome = true := by decide +kernel
theorem cl_4_161 : j_cl 4 161 = some (1, 93) := by decide +kernel
theorem f_4_164 : j_fl 4 164 = some (1, 5) := by decide +kernel
theorem f_4_167 : j_fl 4 167 = some (0, 0) := by decide +kernel
theorem f_4_170 : j_fl 4 170 = some (0, 1) := by decide +kernel
theorem f_4_173 : j_fl 4 173 = some (0, 2) := by decide +kernel
theorem cl_4_176 : j_cl 4 176 = some (0, 16) := by decide +kernel
theorem cl_4_179 : j_cl 4 179 = some (0, 17) := by decide +kernel
theorem f_4_182 : j_fl 4 182 = some (2, 3) := by decide +kernel
theorem sr_4_185 : (j_sr 4 185).isSome = true := by decide +kernel
theorem cl_4_187 : j_cl 4 187 = some (0, 18) := by decide +kernel
theorem cl_4_190 : j_cl 4 190 = some (0, 37) := by decide +kernel
theorem f_4_194 : j_fl 4 194 = some (1, 6) := by decide +kernel
theorem cl_4_197 : j_cl 4 197 = some (7, 0) := by decide +kernel
theorem cl_4_203 : j_cl 4 203 = some (0, 19) := by decide +kernel
theorem cl_4_207 : j_cl 4 207 = some (0, 36) := by decide +kernel
theorem cl_4_210 : j_cl 4 210 = some (0, 35) := by decide +kernel
theorem cl_4_214 : j_cl 4 214 = some (0, 30) := by decide +kernel
theorem cl_4_218 : j_cl 4 218 = some (9, 0) := by decide +kernel
theorem f_4_223 : j_fl 4 223 = some (2, 1) := by decide +kernel
theorem f_4_227 : j_fl 4 227 = some (2, 2) := by decide +kernel
theorem cl_4_237 : j_cl 4 237 = some (0, 49) := by decide +kernel
theorem c_bi127 : (Int8.ofInt (127)).toInt32 = (zN 127) := by decide +kernel
theorem sr_4_230 : (j_sr 4 230).isSome = true := by decide +kernel
theorem cl_4_232 : j_cl 4 232 = some (0, 47) := by decide +kernel
theorem sr_4_233 : (j_sr 4 233).isSome = true := by decide +kernel
theorem cl_4_235 : j_cl 4 235 = some (0, 48) := by decide +kernel
theorem cl_4_240 : j_cl 4 240 = some (0, 53) := by decide +kernel
theorem c_bim10 : (Int8.ofInt (-10)).toInt32 = (zM 9) := by decide +kernel
theorem cl_4_243 : j_cl 4 243 = some (0, 51) := by decide +kernel
theorem cl_4_246 : j_cl 4 246 = some (0, 52) := by decide +kernel
theorem cl_4_249 : j_cl 4 249 = some (0, 54) := by decide +kernel
theorem cl_4_252 : j_cl 4 252 = some (0, 97) := by decide +kernel
theorem sr_4_255 : (j_sr 4 255).isSome = true := by decide +kernel
theorem cl_4_257 : j_cl 4 257 = some (0, 33) := by decide +kernel
theorem kj_4_261 : j_kj 4 261 = some 3797 := by decide +kernel
theorem f_4_263 : j_fl 4 263 = some (3, 0) := by decide +kernel
theorem cl_4_266 : j_cl 4 266 = some (1, 86) := by decide +kernel
theorem c_bi7 : (Int8.ofInt (7)).toInt32 = (zN 7) := by decide +kernel
theorem cl_4_270 : j_cl 4 270 = some (0, 73) := by decide +kernel
theorem cl_4_273 : j_cl 4 273 = some (0, 87) := by decide +kernel
theorem cl_4_277 : j_cl 4 277 = some (0, 88) := by decide +kernel
theorem cl_4_280 : j_cl 4 280 = some (0, 89) := by decide +kernel
theorem kj_4_283 : j_kj 4 283 = some 31 := by decide +kernel
theorem c_bi6 : (Int8.ofInt (6)).toInt32 = (zN 6) := by decide +kernel
theorem cl_4_285 : j_cl 4 285 = some (0, 70) := by decide +kernel
theorem cl_4_288 : j_cl 4 288 = some (0, 71) := by decide +kernel
theorem cl_4_291 : j_cl 4 291 = some (0, 72) := by decide +kernel
theorem cl_4_294 : j_cl 4 294 = some (0, 74) := by decide +kernel
theorem cl_4_297 : j_cl 4 297 = some (0, 77) := by decide +kernel
theorem cl_4_300 : j_cl 4 300 = some (0, 76) := by decide +kernel
theorem cl_4_303 : j_cl 4 303 = some (1, 92) := by decide +kernel
theorem cl_4_307 : j_cl 4 307 = some (1, 91) := by decide +kernel
theorem tl_4_310 : j_tl 4 310 = some ("java/lang/IndexOutOfBoundsException", 314) := by decide +kernel
theorem sr_4_312 : (j_sr 4 312).isSome = true := by decide +kernel
theorem sr_4_315 : (j_sr 4 315).isSome = true := by decide +kernel
theorem cl_4_317 : j_cl 4 317 = some (0, 6) := by decide +kernel
theorem sr_4_320 : (j_sr 4 320).isSome = true := by decide +kernel
theorem f_4_322 : j_fl 4 322 = some (3, 3) := by decide +kernel
theorem cl_4_325 : j_cl 4 325 = some (0, 98) := by decide +kernel
theorem f_4_328 : j_fl 4 328 = some (3, 4) := by decide +kernel
theorem f_4_330 : j_fl 4 330 = some (3, 6) := by decide +kernel
theorem cl_4_333 : j_cl 4 333 = some (0, 99) := by decide +kernel
theorem f_4_336 : j_fl 4 336 = some (3, 5) := by decide +kernel
theorem ki_6_265 : j_ki 6 265 = some (zN 1431655765) := by decide +kernel
theorem ki_6_266 : j_ki 6 266 = some (zN 858993459) := by decide +kernel
theorem ki_6_267 : j_ki 6 267 = some (zN 252645135) := by decide +kernel
theorem c_bi16 : (Int8.ofInt (16)).toInt32 = (zN 16) := by decide +kernel
theorem c_bi63 : (Int8.ofInt (63)).toInt32 = (zN 63) := by decide +kernel
theorem ki_8_7 : j_ki 8 7 = some (zN 15485803) := by decide +kernel
theorem c_si197 : (Int16.ofInt (197)).toInt32 = (zN 197) := by decide +kernel
theorem ki_8_8 : j_ki 8 8 = some (zN 2147483647) := by decide +kernel
theorem cl_8_9 : j_cl 8 9 = some (0, 62) := by decide +kernel
theorem c_bim11 : (Int8.ofInt (-11)).toInt32 = (zM 10) := by decide +kernel
theorem cl_8_17 : j_cl 8 17 = some (0, 63) := by decide +kernel
theorem c_bim12 : (Int8.ofInt (-12)).toInt32 = (zM 11) := by decide +kernel
theorem cl_8_23 : j_cl 8 23 = some (0, 64) := by decide +kernel
theorem cl_8_29 : j_cl 8 29 = some (0, 66) := by decide +kernel
theorem cl_8_32 : j_cl 8 32 = some (0, 67) := by decide +kernel
theorem cl_8_35 : j_cl 8 35 = some (0, 68) := by decide +kernel
theorem cl_8_38 : j_cl 8 38 = some (0, 69) := by decide +kernel
theorem cl_8_42 : j_cl 8 42 = some (0, 70) := by decide +kernel
theorem cl_8_45 : j_cl 8 45 = some (0, 71) := by decide +kernel
theorem cl_8_48 : j_cl 8 48 = some (0, 72) := by decide +kernel
theorem cl_8_51 : j_cl 8 51 = some (0, 73) := by decide +kernel
theorem cl_8_54 : j_cl 8 54 = some (0, 74) := by decide +kernel
theorem cl_8_57 : j_cl 8 57 = some (0, 75) := by decide +kernel
theorem cl_8_60 : j_cl 8 60 = some (0, 76) := by decide +kernel
theorem cl_8_63 : j_cl 8 63 = some (0, 78) := by decide +kernel
theorem cl_8_66 : j_cl 8 66 = some (0, 81) := by decide +kernel
theorem cl_8_69 : j_cl 8 69 = some (0, 84) := by decide +kernel
theorem cl_8_73 : j_cl 8 73 = some (2, 112) := by decide +kernel
theorem cl_8_78 : j_cl 8 78 = some (2, 110) := by decide +kernel
theorem cl_8_81 : j_cl 8 81 = some (1, 119) := by decide +kernel
theorem cl_8_84 : j_cl 8 84 = some (2, 109) := by decide +kernel
theorem c_ic5 : Int32.ofInt (5) = (zN 5) := by decide +kernel
theorem cl_8_86 : j_cl 8 86 = some (2, 114) := by decide +kernel
theorem cl_8_88 : j_cl 8 88 = some (2, 115) := by decide +kernel
theorem cl_8_90 : j_cl 8 90 = some (2, 111) := by decide +kernel
theorem cl_8_92 : j_cl 8 92 = some (2, 113) := by decide +kernel
theorem cl_8_94 : j_cl 8 94 = some (2, 116) := by decide +kernel
theorem cl_8_96 : j_cl 8 96 = some (0, 79) := by decide +kernel
theorem cl_8_99 : j_cl 8 99 = some (0, 77) := by decide +kernel
theorem cl_8_102 : j_cl 8 102 = some (2, 105) := by decide +kernel
theorem cl_8_104 : j_cl 8 104 = some (2, 118) := by decide +kernel
theorem cl_8_107 : j_cl 8 107 = some (2, 107) := by decide +kernel
theorem cl_8_109 : j_cl 8 109 = some (2, 106) := by decide +kernel
theorem cl_8_111 : j_cl 8 111 = some (2, 108) := by decide +kernel
theorem cl_8_114 : j_cl 8 114 = some (0, 82) := by decide +kernel
theorem cl_8_117 : j_cl 8 117 = some (0, 83) := by decide +kernel
theorem c_bi109 : (Int8.ofInt (109)).toInt32 = (zN 109) := by decide +kernel
theorem cl_8_120 : j_cl 8 120 = some (2, 117) := by decide +kernel
theorem c_bi114 : (Int8.ofInt (114)).toInt32 = (zN 114) := by decide +kernel
theorem c_bi14 : (Int8.ofInt (14)).toInt32 = (zN 14) := by decide +kernel
theorem cl_8_122 : j_cl 8 122 = some (2, 103) := by decide +kernel
theorem c_bi9 : (Int8.ofInt (9)).toInt32 = (zN 9) := by decide +kernel
theorem c_bi15 : (Int8.ofInt (15)).toInt32 = (zN 15) := by decide +kernel
theorem c_bim25 : (Int8.ofInt (-25)).toInt32 = (zM 24) := by decide +kernel
theorem c_bi50 : (Int8.ofInt (50)).toInt32 = (zN 50) := by decide +kernel
theorem c_bi108 : (Int8.ofInt (108)).toInt32 = (zN 108) := by decide +kernel
theorem c_bim13 : (Int8.ofInt (-13)).toInt32 = (zM 12) := by decide +kernel
theorem c_bi53 : (Int8.ofInt (53)).toInt32 = (zN 53) := by decide +kernel
theorem c_bim15 : (Int8.ofInt (-15)).toInt32 = (zM 14) := by decide +kernel
theorem cl_8_125 : j_cl 8 125 = some (0, 85) := by decide +kernel
theorem cl_8_129 : j_cl 8 129 = some (2, 102) := by decide +kernel
theorem c_bi33 : (Int8.ofInt (33)).toInt32 = (zN 33) := by decide +kernel
theorem cl_8_131 : j_cl 8 131 = some (2, 104) := by decide +kernel
theorem c_si128 : (Int16.ofInt (128)).toInt32 = (zN 128) := by decide +kernel
theorem c_si1024 : (Int16.ofInt (1024)).toInt32 = (zN 1024) := by decide +kernel
theorem cl_8_133 : j_cl 8 133 = some (1, 121) := by decide +kernel
theorem c_bi20 : (Int8.ofInt (20)).toInt32 = (zN 20) := by decide +kernel
theorem cl_8_137 : j_cl 8 137 = some (1, 122) := by decide +kernel
theorem cl_8_141 : j_cl 8 141 = some (0, 65) := by decide +kernel
theorem cl_8_144 : j_cl 8 144 = some (1, 123) := by decide +kernel
theorem cl_8_147 : j_cl 8 147 = some (1, 124) := by decide +kernel
theorem c_bi29 : (Int8.ofInt (29)).toInt32 = (zN 29) := by decide +kernel
theorem tl_8_10 : j_tl 8 10 = none := by decide +kernel
theorem ol_8_10 : j_ol 8 10 = some 4 := by decide +kernel
theorem cl_8_151 : j_cl 8 151 = some (3, 61) := by decide +kernel
theorem cl_8_152 : j_cl 8 152 = some (1, 120) := by decide +kernel
theorem c_bi22 : (Int8.ofInt (22)).toInt32 = (zN 22) := by decide +kernel
theorem cl_8_156 : j_cl 8 156 = some (1, 101) := by decide +kernel
theorem cl_8_160 : j_cl 8 160 = some (1, 126) := by decide +kernel
theorem cl_8_163 : j_cl 8 163 = some (1, 125) := by decide +kernel
