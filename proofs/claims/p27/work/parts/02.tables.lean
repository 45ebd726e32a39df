/-! tables of the system, printed by wip/p27/gen02.py out of the claim's names; every row is held against the words of lw_tbl below -/
/-- the words that any method may hand on -/
def j_gws : List Cond := lw_tbl.filter goodWord
abbrev jMe : Type := Nat × MethodName × ByteArray × Nat × Option FieldType × Nat × List (Nat × Nat × Nat × Nat)
def j_cn : Nat → String := fun k => match k with
  | 0 => RX0
  | 1 => RX1
  | 2 => RX2
  | 3 => RX3
  | 4 => RX4
  | 5 => RX4
  | 6 => RJ6
  | 7 => RJ9
  | _ => RL
def j_mt0 : List jMe := [(0, yX0_init, cX0_init, 1, none, 1, []), (0, yX0_slot, cX0_slot, 1, (some .int), 1, []), (0, yX0_restart, cX0_restart, 2, none, 2, []), (0, yX0_copyFrom, cX0_copyFrom, 2, none, 2, []), (0, yX0_kept, cX0_kept, 1, (some .int), 1, []), (0, yX0_isFull, cX0_isFull, 1, (some .boolean), 1, []), (0, yX0_isKept, cX0_isKept, 2, (some .boolean), 2, []), (0, yX0_add, cX0_add, 7, (some .int), 5, []), (0, yX0_kindAt, cX0_kindAt, 2, (some .int), 2, []), (0, yX0_holdAAt, cX0_holdAAt, 2, (some .int), 2, []), (0, yX0_holdBAt, cX0_holdBAt, 2, (some .int), 2, []), (0, yX0_amountAt, cX0_amountAt, 2, (some .int), 2, []), (0, yX0_spoiledAt, cX0_spoiledAt, 2, (some .int), 2, []), (0, yX0_canBeRead, cX0_canBeRead, 2, (some .boolean), 2, []), (0, yX0_spoilCopy, cX0_spoilCopy, 4, (some .int), 3, []), (0, yX0_repairOrder, cX0_repairOrder, 4, (some .int), 2, [])]
def j_mt1 : List jMe := [(0, yX0_spoiledCopies, cX0_spoiledCopies, 3, (some .int), 1, []), (0, yX0_unreadableOrders, cX0_unreadableOrders, 3, (some .int), 1, []), (0, yX0_firstUnreadable, cX0_firstUnreadable, 3, (some .int), 2, []), (0, yX0_replayOn, cX0_replayOn, 5, (some .boolean), 4, []), (0, yX0_replayOne, cX0_replayOne, 7, none, 3, []), (0, yX0_moveTons, cX0_moveTons, 5, none, 4, []), (0, yX0_swapTons, cX0_swapTons, 4, none, 3, []), (0, yX0_levelTons, cX0_levelTons, 4, none, 3, []), (1, yX1_init, cX1_init, 1, none, 1, []), (1, yX1_restart, cX1_restart, 2, none, 1, []), (1, yX1_copyFrom, cX1_copyFrom, 2, none, 2, []), (1, yX1_keepSnapshot, cX1_keepSnapshot, 1, none, 1, []), (1, yX1_fallBack, cX1_fallBack, 2, (some .int), 1, []), (1, yX1_sumOfTons, cX1_sumOfTons, 3, (some .int), 1, []), (1, yX1_hasHolds, cX1_hasHolds, 3, (some .boolean), 2, []), (2, yX2_init, cX2_init, 1, none, 1, [])]
def j_mt2 : List jMe := [(2, yX2_restart, cX2_restart, 2, none, 2, []), (2, yX2_copyFrom, cX2_copyFrom, 2, none, 2, []), (2, yX2_shipOf, cX2_shipOf, 2, (some (.object "ShipJournal$Ship")), 2, []), (2, yX2_otherThan, cX2_otherThan, 2, (some (.object "ShipJournal$Ship")), 2, []), (2, yX2_shipBehind, cX2_shipBehind, 1, (some (.object "ShipJournal$Ship")), 1, []), (2, yX2_slowerSnapshot, cX2_slowerSnapshot, 1, (some (.object "ShipJournal$Ship")), 1, []), (2, yX2_linksUp, cX2_linksUp, 1, (some .int), 1, []), (2, yX2_replayedBy, cX2_replayedBy, 2, (some .int), 2, []), (2, yX2_replayOrders, cX2_replayOrders, 4, (some .int), 3, []), (2, yX2_canReplay, cX2_canReplay, 2, (some .boolean), 2, []), (2, yX2_takeSnapshot, cX2_takeSnapshot, 3, (some .int), 2, []), (2, yX2_repairCopies, cX2_repairCopies, 3, (some .int), 1, []), (2, yX2_canRepair, cX2_canRepair, 2, (some .boolean), 2, []), (2, yX2_knowsOrder, cX2_knowsOrder, 2, (some .boolean), 2, []), (3, yX3_init, cX3_init, 1, none, 1, []), (3, yX3_isFull, cX3_isFull, 1, (some .boolean), 1, [])]
def j_mt3 : List jMe := [(3, yX3_add, cX3_add, 2, (some .int), 2, []), (3, yX3_clear, cX3_clear, 2, (some .int), 1, []), (3, yX3_byteAt, cX3_byteAt, 2, (some .int), 2, []), (3, yX3_goToStart, cX3_goToStart, 1, none, 1, []), (3, yX3_isAtEnd, cX3_isAtEnd, 1, (some .boolean), 1, []), (3, yX3_findSyntaxError, cX3_findSyntaxError, 2, (some .int), 1, []), (3, yX3_readCommand, cX3_readCommand, 1, (some .boolean), 1, []), (3, yX3_readSign, cX3_readSign, 2, (some .boolean), 2, []), (3, yX3_readFirst, cX3_readFirst, 2, (some .boolean), 2, []), (3, yX3_readSecond, cX3_readSecond, 2, (some .boolean), 2, []), (3, yX3_readDigit, cX3_readDigit, 3, (some .int), 2, []), (3, yX3_readNumber, cX3_readNumber, 3, (some .boolean), 1, []), (3, yX3_isDigit, cX3_isDigit, 1, (some .boolean), 1, []), (4, yX4_init, cX4_init, 2, none, 1, []), (4, yX4_begin, cX4_begin, 3, (some .int), 2, []), (4, yX4_write, cX4_write, 5, (some .int), 5, [])]
def j_mt4 : List jMe := [(4, yX4_spoil, cX4_spoil, 3, (some .int), 3, []), (4, yX4_repair, cX4_repair, 1, (some .int), 1, []), (4, yX4_replay, cX4_replay, 3, (some .int), 3, []), (4, yX4_snapshot, cX4_snapshot, 2, (some .int), 2, []), (4, yX4_crash, cX4_crash, 2, (some .int), 2, []), (4, yX4_link, cX4_link, 3, (some .int), 3, []), (4, yX4_order, cX4_order, 3, (some .int), 3, []), (4, yX4_ship, cX4_ship, 4, (some .int), 3, []), (4, yX4_hold, cX4_hold, 3, (some .int), 3, []), (4, yX4_value, cX4_value, 2, (some .int), 2, []), (4, yX4_ahead, cX4_ahead, 3, (some .int), 2, []), (4, yX4_stop, cX4_stop, 2, (some .int), 2, []), (4, yX4_tonsAt, cX4_tonsAt, 5, (some .int), 3, []), (4, yX4_agree, cX4_agree, 3, (some .int), 1, []), (4, yX4_roomBy, cX4_roomBy, 4, (some .int), 2, []), (4, yX4_slower, cX4_slower, 1, (some .int), 1, [])]
def j_mt5 : List jMe := [(4, yX4_clearText, cX4_clearText, 1, (some .int), 1, []), (4, yX4_append, cX4_append, 2, (some .int), 2, []), (4, yX4_clearText, cX4_clearText, 1, (some .int), 1, []), (4, yX4_carryOut, cX4_carryOut, 3, (some .int), 1, []), (4, yX4_undo, cX4_undo, 1, (some .int), 1, []), (4, yX4_digest, cX4_digest, 4, (some .long), 1, []), (4, yX4_mix, cX4_mix, 4, (some .long), 2, []), (4, yX4_mixOrders, cX4_mixOrders, 7, (some .long), 2, []), (4, yX4_mixShips, cX4_mixShips, 7, (some .long), 2, []), (4, yX4_mixForecasts, cX4_mixForecasts, 6, (some .long), 2, []), (4, yX4_isOrder, cX4_isOrder, 4, (some .boolean), 4, []), (4, yX4_usesHoldB, cX4_usesHoldB, 1, (some .boolean), 1, []), (4, yX4_isHold, cX4_isHold, 1, (some .boolean), 1, []), (4, yX4_requireHold, cX4_requireHold, 1, none, 1, []), (4, yX4_requireShip, cX4_requireShip, 1, none, 1, []), (4, yX4_requireKept, cX4_requireKept, 2, none, 2, [])]
def j_mt6 : List jMe := [(4, yX4_saveState, cX4_saveState, 3, none, 1, []), (4, yX4_obeyCommand, cX4_obeyCommand, 1, (some .boolean), 1, []), (4, yX4_obeyWrite, cX4_obeyWrite, 2, (some .boolean), 2, []), (4, yX4_obeySnapshot, cX4_obeySnapshot, 2, (some .boolean), 1, []), (6, yJ6_bitCount_0f7a4, cJ6_bitCount_0f7a4, 1, (some .int), 1, []), (8, yL_cell, cL_cell, 2, (some .int), 2, []), (8, yL_begin, cL_begin, 3, (some .int), 2, [(0, 5, 6, 15)]), (8, yL_write, cL_write, 6, (some .int), 5, [(0, 9, 10, 15), (0, 9, 15, 21)]), (8, yL_spoil, cL_spoil, 4, (some .int), 3, [(0, 6, 7, 27), (0, 6, 11, 15)]), (8, yL_replay, cL_replay, 4, (some .int), 3, [(0, 6, 7, 27), (0, 6, 11, 15)]), (8, yL_snapshot, cL_snapshot, 3, (some .int), 2, [(0, 5, 6, 27), (0, 5, 10, 21)]), (8, yL_crash, cL_crash, 3, (some .int), 2, [(0, 5, 6, 27)]), (8, yL_link, cL_link, 4, (some .int), 3, [(0, 6, 7, 27), (0, 6, 11, 21)]), (8, yL_order, cL_order, 4, (some .int), 3, [(0, 6, 7, 27), (0, 6, 11, 15)]), (8, yL_ship, cL_ship, 4, (some .int), 3, [(0, 6, 7, 27), (0, 6, 11, 15)]), (8, yL_hold, cL_hold, 4, (some .int), 3, [(0, 6, 7, 27)])]
def j_mt7 : List jMe := [(8, yL_value, cL_value, 3, (some .int), 2, [(0, 5, 6, 15)]), (8, yL_ahead, cL_ahead, 3, (some .int), 2, [(0, 5, 6, 27)]), (8, yL_stop, cL_stop, 3, (some .int), 2, [(0, 5, 6, 27)]), (8, yL_tonsAt, cL_tonsAt, 4, (some .int), 3, [(0, 6, 7, 27)]), (8, yL_roomBy, cL_roomBy, 3, (some .int), 2, [(0, 5, 6, 27)]), (8, yL_append, cL_append, 3, (some .int), 2, [(0, 5, 6, 15), (0, 5, 10, 21)]), (8, yL_undo, cL_undo, 2, (some .int), 1, [(0, 4, 5, 21)]), (8, yL_lesser, cL_lesser, 2, (some .int), 2, []), (8, yL_isSound, cL_isSound, 12, (some .boolean), 1, []), (8, yL_replays, cL_replays, 10, (some .boolean), 3, []), (8, yL_snaps, cL_snaps, 5, (some .boolean), 2, []), (8, yL_links, cL_links, 3, (some .boolean), 2, []), (8, yL_carries, cL_carries, 11, (some .boolean), 5, []), (8, yL_refuses, cL_refuses, 5, (some .boolean), 1, []), (8, yL_acts, cL_acts, 6, (some .boolean), 2, []), (8, yL_law, cL_law, 4, (some .boolean), 1, [])]
def j_mt : List jMe := j_mt0 ++ (j_mt1 ++ (j_mt2 ++ (j_mt3 ++ (j_mt4 ++ (j_mt5 ++ (j_mt6 ++ (j_mt7)))))))
def j_flT : List (Nat × Nat × Nat × Nat) := [(0, 9, 0, 3), (0, 15, 0, 4), (0, 18, 0, 5), (0, 21, 0, 6), (0, 24, 0, 7), (0, 27, 0, 0), (0, 31, 0, 1), (0, 34, 0, 2), (1, 9, 1, 5), (1, 15, 1, 6), (1, 18, 1, 0), (1, 22, 1, 1), (1, 25, 1, 2), (1, 29, 1, 3), (1, 32, 1, 4), (2, 12, 2, 0), (2, 21, 2, 1), (2, 25, 2, 2), (2, 35, 2, 3), (2, 46, 1, 0), (2, 49, 1, 1), (2, 52, 1, 2), (2, 60, 1, 5), (2, 68, 1, 3), (2, 81, 0, 1), (2, 88, 0, 2), (3, 9, 3, 0), (3, 15, 3, 1), (3, 19, 3, 2), (3, 22, 3, 3), (3, 25, 3, 4), (3, 28, 3, 5), (3, 31, 3, 6), (4, 10, 4, 0), (4, 16, 4, 1), (4, 20, 4, 2), (4, 27, 4, 3), (4, 31, 4, 4), (4, 45, 2, 0), (4, 103, 1, 2), (4, 144, 1, 0), (4, 147, 1, 1), (4, 153, 1, 3), (4, 156, 1, 4), (4, 164, 1, 5), (4, 167, 0, 0), (4, 170, 0, 1), (4, 173, 0, 2), (4, 182, 2, 3), (4, 194, 1, 6), (4, 223, 2, 1), (4, 227, 2, 2), (4, 263, 3, 0), (4, 322, 3, 3), (4, 328, 3, 4), (4, 330, 3, 6), (4, 336, 3, 5)]
def j_clT0 : List (Nat × Nat × Nat × Nat) := [(0, 3, 6, 0), (0, 37, 7, 0), (0, 43, 0, 4), (0, 47, 1, 1), (0, 51, 5, 91), (0, 55, 0, 12), (0, 58, 1, 100), (0, 63, 0, 13), (0, 66, 0, 20), (0, 70, 9, 0), (0, 76, 8, 0), (0, 79, 1, 21), (0, 83, 1, 22), (0, 87, 1, 23), (1, 3, 6, 0), (1, 35, 7, 0), (2, 3, 6, 0), (2, 11, 4, 0), (2, 20, 4, 24), (2, 28, 0, 32), (2, 32, 0, 2), (2, 33, 0, 25), (2, 39, 0, 3), (2, 43, 0, 26), (2, 56, 0, 41), (2, 64, 0, 20), (2, 71, 0, 6), (2, 75, 0, 13), (2, 78, 0, 27), (2, 84, 0, 37), (2, 91, 0, 44), (2, 94, 0, 15), (2, 98, 1, 45), (3, 3, 6, 0), (3, 34, 0, 51), (3, 37, 0, 52), (3, 41, 0, 54), (3, 44, 0, 50), (3, 48, 0, 55), (3, 52, 0, 56)]
def j_clT1 : List (Nat × Nat × Nat × Nat) := [(3, 55, 0, 59), (3, 58, 0, 57), (3, 61, 0, 58), (3, 64, 1, 60), (4, 1, 6, 0), (4, 9, 3, 31), (4, 26, 4, 46), (4, 42, 0, 96), (4, 49, 0, 4), (4, 55, 0, 32), (4, 59, 1, 90), (4, 65, 0, 5), (4, 74, 0, 7), (4, 78, 0, 95), (4, 83, 0, 14), (4, 87, 0, 43), (4, 90, 1, 94), (4, 95, 0, 34), (4, 99, 0, 40), (4, 111, 0, 42), (4, 115, 0, 28), (4, 120, 0, 38), (4, 123, 0, 8), (4, 127, 0, 9), (4, 130, 0, 10), (4, 133, 0, 11), (4, 136, 0, 12), (4, 139, 0, 39), (4, 150, 0, 29), (4, 161, 1, 93), (4, 176, 0, 16), (4, 179, 0, 17), (4, 187, 0, 18), (4, 190, 0, 37), (4, 197, 7, 0), (4, 203, 0, 19), (4, 207, 0, 36), (4, 210, 0, 35), (4, 214, 0, 30), (4, 218, 9, 0)]
def j_clT2 : List (Nat × Nat × Nat × Nat) := [(4, 232, 0, 47), (4, 235, 0, 48), (4, 237, 0, 49), (4, 240, 0, 53), (4, 243, 0, 51), (4, 246, 0, 52), (4, 249, 0, 54), (4, 252, 0, 97), (4, 257, 0, 33), (4, 266, 1, 86), (4, 270, 0, 73), (4, 273, 0, 87), (4, 277, 0, 88), (4, 280, 0, 89), (4, 285, 0, 70), (4, 288, 0, 71), (4, 291, 0, 72), (4, 294, 0, 74), (4, 297, 0, 77), (4, 300, 0, 76), (4, 303, 1, 92), (4, 307, 1, 91), (4, 317, 0, 6), (4, 325, 0, 98), (4, 333, 0, 99), (8, 9, 0, 62), (8, 17, 0, 63), (8, 23, 0, 64), (8, 29, 0, 66), (8, 32, 0, 67), (8, 35, 0, 68), (8, 38, 0, 69), (8, 42, 0, 70), (8, 45, 0, 71), (8, 48, 0, 72), (8, 51, 0, 73), (8, 54, 0, 74), (8, 57, 0, 75), (8, 60, 0, 76), (8, 63, 0, 78)]
def j_clT3 : List (Nat × Nat × Nat × Nat) := [(8, 66, 0, 81), (8, 69, 0, 84), (8, 73, 2, 112), (8, 78, 2, 110), (8, 81, 1, 119), (8, 84, 2, 109), (8, 86, 2, 114), (8, 88, 2, 115), (8, 90, 2, 111), (8, 92, 2, 113), (8, 94, 2, 116), (8, 96, 0, 79), (8, 99, 0, 77), (8, 102, 2, 105), (8, 104, 2, 118), (8, 107, 2, 107), (8, 109, 2, 106), (8, 111, 2, 108), (8, 114, 0, 82), (8, 117, 0, 83), (8, 120, 2, 117), (8, 122, 2, 103), (8, 125, 0, 85), (8, 129, 2, 102), (8, 131, 2, 104), (8, 133, 1, 121), (8, 137, 1, 122), (8, 141, 0, 65), (8, 144, 1, 123), (8, 147, 1, 124), (8, 151, 3, 61), (8, 152, 1, 120), (8, 156, 1, 101), (8, 160, 1, 126), (8, 163, 1, 125)]
def j_clT : List (Nat × Nat × Nat × Nat) := j_clT0 ++ (j_clT1 ++ (j_clT2 ++ (j_clT3)))
def j_klT : List (Nat × Nat × String) := [(2, 9, RX0), (2, 18, RX1), (4, 7, RX2), (4, 24, RX3), (4, 35, "java/lang/IllegalArgumentException"), (4, 69, "java/lang/IllegalStateException"), (4, 310, "java/lang/IndexOutOfBoundsException"), (8, 10, RX4), (8, 15, "java/lang/IllegalArgumentException"), (8, 21, "java/lang/IllegalStateException"), (8, 27, "java/lang/IndexOutOfBoundsException")]
def j_olT : List (Nat × Nat × Nat) := [(2, 9, 0), (2, 18, 1), (4, 7, 2), (4, 24, 3), (8, 10, 4)]
def j_kiT : List (Nat × Nat × Int32) := [(6, 265, 1431655765), (6, 266, 858993459), (6, 267, 252645135), (8, 7, 15485803), (8, 8, 2147483647)]
def j_kjT : List (Nat × Nat × Int64) := [(4, 261, 3797), (4, 283, 31)]
def j_tlT : List (Nat × Nat × String × Nat) := [(4, 35, "java/lang/IllegalArgumentException", 39), (4, 69, "java/lang/IllegalStateException", 73), (4, 310, "java/lang/IndexOutOfBoundsException", 314)]
def j_srT : List (Nat × Nat × String) := [(4, 37, "places out of range"), (4, 63, "no such order"), (4, 71, "the ring is full"), (4, 81, "no such copy"), (4, 93, "orders out of range"), (4, 109, "the link is lost"), (4, 118, "the link is so already"), (4, 142, "no such value of an order"), (4, 159, "no such value of a ship"), (4, 185, "no such value"), (4, 230, "no byte of a text"), (4, 233, "the text is full"), (4, 255, "no saved state"), (4, 312, "no such hold"), (4, 315, "no such ship"), (4, 320, "no such order is kept")]
def j_nsT : List (Nat × Nat × MethodName) := [(2, 11, yX0_init), (2, 20, yX1_init), (4, 26, yX3_init), (0, 51, yX4_usesHoldB)]
/-- names of the methods by number, for reading: 0 yX0_init, 1 yX0_slot, 2 yX0_restart, 3 yX0_copyFrom, 4 yX0_kept, 5 yX0_isFull, 6 yX0_isKept, 7 yX0_add, 8 yX0_kindAt, 9 yX0_holdAAt, 10 yX0_holdBAt, 11 yX0_amountAt, 12 yX0_spoiledAt, 13 yX0_canBeRead, 14 yX0_spoilCopy, 15 yX0_repairOrder, 16 yX0_spoiledCopies, 17 yX0_unreadableOrders, 18 yX0_firstUnreadable, 19 yX0_replayOn, 20 yX0_replayOne, 21 yX0_moveTons, 22 yX0_swapTons, 23 yX0_levelTons, 24 yX1_init, 25 yX1_restart, 26 yX1_copyFrom, 27 yX1_keepSnapshot, 28 yX1_fallBack, 29 yX1_sumOfTons, 30 yX1_hasHolds, 31 yX2_init, 32 yX2_restart, 33 yX2_copyFrom, 34 yX2_shipOf, 35 yX2_otherThan, 36 yX2_shipBehind, 37 yX2_slowerSnapshot, 38 yX2_linksUp, 39 yX2_replayedBy, 40 yX2_replayOrders, 41 yX2_canReplay, 42 yX2_takeSnapshot, 43 yX2_repairCopies, 44 yX2_canRepair, 45 yX2_knowsOrder, 46 yX3_init, 47 yX3_isFull, 48 yX3_add, 49 yX3_clear, 50 yX3_byteAt, 51 yX3_goToStart, 52 yX3_isAtEnd, 53 yX3_findSyntaxError, 54 yX3_readCommand, 55 yX3_readSign, 56 yX3_readFirst, 57 yX3_readSecond, 58 yX3_readDigit, 59 yX3_readNumber, 60 yX3_isDigit, 61 yX4_init, 62 yX4_begin, 63 yX4_write, 64 yX4_spoil, 65 yX4_repair, 66 yX4_replay, 67 yX4_snapshot, 68 yX4_crash, 69 yX4_link, 70 yX4_order, 71 yX4_ship, 72 yX4_hold, 73 yX4_value, 74 yX4_ahead, 75 yX4_stop, 76 yX4_tonsAt, 77 yX4_agree, 78 yX4_roomBy, 79 yX4_slower, 82 yX4_clearText, 81 yX4_append, 83 yX4_carryOut, 84 yX4_undo, 85 yX4_digest, 86 yX4_mix, 87 yX4_mixOrders, 88 yX4_mixShips, 89 yX4_mixForecasts, 90 yX4_isOrder, 91 yX4_usesHoldB, 92 yX4_isHold, 93 yX4_requireHold, 94 yX4_requireShip, 95 yX4_requireKept, 96 yX4_saveState, 97 yX4_obeyCommand, 98 yX4_obeyWrite, 99 yX4_obeySnapshot, 100 yJ6_bitCount_0f7a4, 101 yL_cell, 102 yL_begin, 103 yL_write, 104 yL_spoil, 105 yL_replay, 106 yL_snapshot, 107 yL_crash, 108 yL_link, 109 yL_order, 110 yL_ship, 111 yL_hold, 112 yL_value, 113 yL_ahead, 114 yL_stop, 115 yL_tonsAt, 116 yL_roomBy, 117 yL_append, 118 yL_undo, 119 yL_lesser, 120 yL_isSound, 121 yL_replays, 122 yL_snaps, 123 yL_links, 124 yL_carries, 125 yL_refuses, 126 yL_acts, 127 yL_law -/
theorem j_fam {α : Type} {l : List α} {f : α → List Cond} {ps : List Nat} (hp : l.flatMap f = ps.filterMap (fun i => lw_tbl[i]?)) (hg : l.all (fun t => (f t).all goodWord) = true) : ∀ t ∈ l, ∀ w ∈ f t, w ∈ j_gws := by
  intro t ht w hw
  have h1 : w ∈ ps.filterMap (fun i => lw_tbl[i]?) := hp ▸ List.mem_flatMap.mpr ⟨t, ht, hw⟩
  obtain ⟨i, -, hi⟩ := List.mem_filterMap.mp h1
  exact List.mem_filter.mpr ⟨List.mem_of_getElem? hi, List.all_eq_true.mp (List.all_eq_true.mp hg t ht) w hw⟩
theorem j_famM {α : Type} {l : List α} {f : α → Cond} {ps : List Nat} (hp : l.map f = ps.filterMap (fun i => lw_tbl[i]?)) : ∀ t ∈ l, f t ∈ lw_tbl := by
  intro t ht
  have h1 : f t ∈ ps.filterMap (fun i => lw_tbl[i]?) := hp ▸ List.mem_map.mpr ⟨t, ht, rfl⟩
  obtain ⟨i, -, hi⟩ := List.mem_filterMap.mp h1
  exact List.mem_of_getElem? hi
def j_T : Nat → u_T := fun k => match k with
  | 0 => TX0
  | 1 => TX1
  | 2 => TX2
  | 3 => TX3
  | 4 => TX4
  | _ => TX5
def j_ty : Nat → Nat → FieldType := fun k => match k with
  | 0 => tyX0
  | 1 => tyX1
  | 2 => tyX2
  | 3 => tyX3
  | 4 => tyX4
  | _ => tyX5
def j_nf : Nat → Nat := fun k => match k with
  | 0 => 8
  | 1 => 7
  | 2 => 4
  | 3 => 7
  | 4 => 5
  | _ => 0
theorem j_cl_at : ∀ k, k < 5 → vwCl[k]? = some (j_cn k, j_T k, j_nf k) := by
  intro k hk
  rcases (show k = 0 ∨ k = 1 ∨ k = 2 ∨ k = 3 ∨ k = 4 by omega) with rfl | rfl | rfl | rfl | rfl <;> rfl
def j_wF (t : Nat × Nat × Nat × Nat) : List Cond := [.fieldLink (j_cn t.1) t.2.1 (j_T t.2.2.1 t.2.2.2).1 (j_T t.2.2.1 t.2.2.2).2.1 (j_T t.2.2.1 t.2.2.2).2.2.1]
def j_wM (me : jMe) : List Cond := match me.2.2.2.2.2.2 with
  | [] => [.code me.2.1 me.2.2.1 me.2.2.2.1 me.2.2.2.2.1]
  | hh => [.codeWith me.2.1 me.2.2.1 me.2.2.2.1 me.2.2.2.2.1 hh]
def j_wC (t : Nat × Nat × Nat × Nat) : List Cond := match t.2.2.1, j_mt[t.2.2.2]? with
  | 0, some me => [.methodLink (j_cn t.1) t.2.1 me.2.1, .instanceMethod me.2.1, .selects me.2.1.cls me.2.1 me.2.1]
  | 1, some me => [.methodLink (j_cn t.1) t.2.1 me.2.1, .static me.2.1]
  | 2, some me => [.methodLink (j_cn t.1) t.2.1 me.2.1, .static me.2.1]
  | 3, some me => [.methodLink (j_cn t.1) t.2.1 me.2.1, .instanceMethod me.2.1]
  | 4, some me => [.instanceMethod me.2.1]
  | 5, some me => [.static me.2.1]
  | 6, some _ => [.methodLink (j_cn t.1) t.2.1 objectInit, .instanceMethod objectInit, .code objectInit ⟨#[0xb1]⟩ 1 none]
  | 8, some _ => [.methodLink (j_cn t.1) t.2.1 Lib.Math.max.name, .static Lib.Math.max.name, .initialized "java/lang/Math", .code Lib.Math.max.name Lib.Math.max.code 2 (some .int)]
  | 9, some _ => [.methodLink (j_cn t.1) t.2.1 Lib.Math.min.name, .static Lib.Math.min.name, .initialized "java/lang/Math", .code Lib.Math.min.name Lib.Math.min.code 2 (some .int)]
  | _, _ => [.methodLink (j_cn t.1) t.2.1 arraycopyName, .native arraycopyName, .static arraycopyName, .initialized "java/lang/System"]
def j_wK (t : Nat × Nat × String) : List Cond := [.classLink (j_cn t.1) t.2.1 t.2.2]
def j_wO (t : Nat × Nat × Nat) : List Cond := [.classLink (j_cn t.1) t.2.1 (j_cn t.2.2), .instantiable (j_cn t.2.2) (j_nf t.2.2), .initialized (j_cn t.2.2)]
def j_wT (t : Nat × Nat × String × Nat) : List Cond := [.classLink (j_cn t.1) t.2.1 t.2.2.1, .initialized t.2.2.1]
theorem j_fF_p : (j_flT).flatMap j_wF = ([60, 61, 62, 63, 64, 52, 54, 57, 103, 106, 89, 92, 95, 98, 101, 135, 137, 139, 141, 90, 93, 97, 104, 99, 55, 58, 159, 161, 162, 163, 165, 167, 169, 187, 188, 189, 190, 191, 136, 96, 91, 94, 100, 102, 105, 53, 56, 59, 142, 107, 138, 140, 160, 164, 166, 170, 168] : List Nat).filterMap (fun i => lw_tbl[i]?) := by decide +kernel
theorem j_fF_g : (j_flT).all (fun t => (j_wF t).all goodWord) = true := by decide +kernel
theorem j_fF_i : ∀ t ∈ j_flT, ∀ w ∈ j_wF t, w ∈ j_gws := j_fam j_fF_p j_fF_g
theorem j_fM0_p : (j_mt0).flatMap j_wM = ([50, 232, 130, 389, 276, 588, 452, 594, 457, 461, 465, 469, 229, 225, 607, 711] : List Nat).filterMap (fun i => lw_tbl[i]?) := by decide +kernel
theorem j_fM0_g : (j_mt0).all (fun t => (j_wM t).all goodWord) = true := by decide +kernel
theorem j_fM0_i : ∀ t ∈ j_mt0, ∀ w ∈ j_wM t, w ∈ j_gws := j_fam j_fM0_p j_fM0_g
theorem j_fM1_p : (j_mt1).flatMap j_wM = ([280, 290, 486, 221, 236, 245, 248, 251, 87, 134, 394, 642, 654, 433, 255, 44] : List Nat).filterMap (fun i => lw_tbl[i]?) := by decide +kernel
theorem j_fM1_g : (j_mt1).all (fun t => (j_wM t).all goodWord) = true := by decide +kernel
theorem j_fM1_i : ∀ t ∈ j_mt1, ∀ w ∈ j_wM t, w ∈ j_gws := j_fam j_fM1_p j_fM1_g
theorem j_fM2_p : (j_mt2).flatMap j_wM = ([126, 385, 429, 214, 210, 504, 666, 474, 619, 623, 638, 700, 704, 707, 157, 678] : List Nat).filterMap (fun i => lw_tbl[i]?) := by decide +kernel
theorem j_fM2_g : (j_mt2).all (fun t => (j_wM t).all goodWord) = true := by decide +kernel
theorem j_fM2_i : ∀ t ∈ j_mt2, ∀ w ∈ j_wM t, w ∈ j_gws := j_fam j_fM2_p j_fM2_g
theorem j_fM3_p : (j_mt3).flatMap j_wM = ([683, 725, 749, 737, 741, 733, 745, 753, 757, 772, 761, 765, 768, 36, 564, 577] : List Nat).filterMap (fun i => lw_tbl[i]?) := by decide +kernel
theorem j_fM3_g : (j_mt3).all (fun t => (j_wM t).all goodWord) = true := by decide +kernel
theorem j_fM3_i : ∀ t ∈ j_mt3, ∀ w ∈ j_wM t, w ∈ j_gws := j_fam j_fM3_p j_fM3_g
theorem j_fM4_p : (j_mt4).flatMap j_wM = ([602, 696, 614, 633, 650, 661, 444, 406, 511, 272, 518, 482, 493, 206, 525, 259] : List Nat).filterMap (fun i => lw_tbl[i]?) := by decide +kernel
theorem j_fM4_g : (j_mt4).all (fun t => (j_wM t).all goodWord) = true := by decide +kernel
theorem j_fM4_i : ∀ t ∈ j_mt4, ∀ w ∈ j_wM t, w ∈ j_gws := j_fam j_fM4_p j_fM4_g
theorem j_fM5_p : (j_mt5).flatMap j_wM = ([721, 673, 721, 729, 365, 533, 537, 543, 548, 554, 580, 583, 499, 496, 409, 448] : List Nat).filterMap (fun i => lw_tbl[i]?) := by decide +kernel
theorem j_fM5_g : (j_mt5).all (fun t => (j_wM t).all goodWord) = true := by decide +kernel
theorem j_fM5_i : ∀ t ∈ j_mt5, ∀ w ∈ j_wM t, w ∈ j_gws := j_fam j_fM5_p j_fM5_g
theorem j_fM6_p : (j_mt6).flatMap j_wM = ([569, 779, 783, 787, 283, 262, 560, 573, 598, 610, 629, 646, 657, 440, 401, 507] : List Nat).filterMap (fun i => lw_tbl[i]?) := by decide +kernel
theorem j_fM6_g : (j_mt6).all (fun t => (j_wM t).all goodWord) = true := by decide +kernel
theorem j_fM6_i : ∀ t ∈ j_mt6, ∀ w ∈ j_wM t, w ∈ j_gws := j_fam j_fM6_p j_fM6_g
theorem j_fI_p : ((List.range 9)).flatMap (fun k => [Cond.initialized (j_cn k)]) = ([20, 21, 19, 22, 18, 18, 28, 30, 17] : List Nat).filterMap (fun i => lw_tbl[i]?) := by decide +kernel
theorem j_fI_g : ((List.range 9)).all (fun t => ((fun k => [Cond.initialized (j_cn k)]) t).all goodWord) = true := by decide +kernel
theorem j_fI_i : ∀ t ∈ (List.range 9), ∀ w ∈ (fun k => [Cond.initialized (j_cn k)]) t, w ∈ j_gws := j_fam j_fI_p j_fI_g
theorem j_fC0_p : (j_clT0).flatMap j_wC = ([51, 38, 39, 390, 217, 216, 27, 589, 274, 275, 230, 231, 582, 226, 227, 228, 281, 282, 222, 223, 224, 233, 234, 235, 237, 238, 30, 239, 240, 241, 30, 242, 243, 244, 246, 247, 249, 250, 88, 38, 39, 395, 217, 216, 27, 45, 38, 39, 49, 86, 123, 124, 125, 127, 128, 129, 131, 132, 133, 386, 387, 388, 391, 392, 393, 620, 622, 6, 626, 234, 235, 624, 450, 451, 625, 223, 224, 639, 640, 641, 643, 502, 503, 701, 703, 7, 708, 709, 710, 705, 706, 158, 38, 39, 734, 735, 736, 738, 739, 740, 742, 743, 744, 746, 748, 8, 750, 752, 9, 754, 756, 10] : List Nat).filterMap (fun i => lw_tbl[i]?) := by decide +kernel
theorem j_fC0_g : (j_clT0).all (fun t => (j_wC t).all goodWord) = true := by decide +kernel
theorem j_fC0_i : ∀ t ∈ j_clT0, ∀ w ∈ j_wC t, w ∈ j_gws := j_fam j_fC0_p j_fC0_g
theorem j_fC1_p : (j_clT1).flatMap j_wC = ([762, 764, 12, 769, 771, 13, 758, 760, 11, 766, 767, 37, 38, 39, 42, 43, 156, 566, 568, 5, 273, 274, 275, 570, 124, 125, 578, 579, 585, 586, 587, 591, 592, 593, 445, 447, 1, 604, 605, 606, 697, 698, 699, 407, 408, 426, 427, 428, 616, 617, 618, 635, 636, 637, 651, 652, 653, 663, 664, 665, 454, 455, 456, 458, 459, 460, 462, 463, 464, 466, 467, 468, 470, 227, 228, 471, 472, 473, 430, 431, 432, 494, 495, 277, 278, 279, 287, 288, 289, 483, 484, 485, 501, 502, 503, 215, 217, 216, 27, 218, 219, 220, 207, 208, 209, 211, 212, 213, 252, 253, 254, 526, 238, 30, 239] : List Nat).filterMap (fun i => lw_tbl[i]?) := by decide +kernel
theorem j_fC1_g : (j_clT1).all (fun t => (j_wC t).all goodWord) = true := by decide +kernel
theorem j_fC1_i : ∀ t ∈ j_clT1, ∀ w ∈ j_wC t, w ∈ j_gws := j_fam j_fC1_p j_fC1_g
theorem j_fC2_p : (j_clT2).flatMap j_wC = ([675, 676, 677, 680, 681, 682, 722, 723, 724, 730, 731, 732, 773, 735, 736, 774, 739, 740, 775, 743, 744, 776, 778, 14, 382, 383, 384, 535, 536, 539, 270, 271, 540, 542, 2, 545, 547, 3, 551, 553, 4, 544, 442, 443, 549, 404, 405, 550, 509, 510, 555, 516, 517, 556, 204, 205, 557, 491, 492, 497, 498, 581, 582, 449, 450, 451, 780, 782, 15, 784, 786, 16, 561, 562, 563, 574, 575, 576, 599, 600, 601, 611, 612, 613, 630, 631, 632, 647, 648, 649, 658, 659, 660, 441, 442, 443, 403, 404, 405, 508, 509, 510, 269, 270, 271, 515, 516, 517, 479, 480, 481, 490, 491, 492, 522, 523, 524] : List Nat).filterMap (fun i => lw_tbl[i]?) := by decide +kernel
theorem j_fC2_g : (j_clT2).all (fun t => (j_wC t).all goodWord) = true := by decide +kernel
theorem j_fC2_i : ∀ t ∈ j_clT2, ∀ w ∈ j_wC t, w ∈ j_gws := j_fam j_fC2_p j_fC2_g
theorem j_fC3_p : (j_clT3).flatMap j_wC = ([670, 671, 672, 362, 363, 364, 265, 266, 399, 400, 435, 436, 438, 439, 476, 477, 487, 488, 505, 506, 512, 513, 519, 520, 256, 257, 258, 203, 204, 205, 608, 609, 358, 359, 644, 645, 627, 628, 655, 656, 718, 719, 720, 726, 727, 728, 667, 668, 571, 572, 530, 531, 532, 558, 559, 596, 597, 687, 688, 690, 691, 693, 694, 695, 712, 713, 715, 716, 34, 35, 396, 397, 260, 261, 684, 685, 527, 528] : List Nat).filterMap (fun i => lw_tbl[i]?) := by decide +kernel
theorem j_fC3_g : (j_clT3).all (fun t => (j_wC t).all goodWord) = true := by decide +kernel
theorem j_fC3_i : ∀ t ∈ j_clT3, ∀ w ∈ j_wC t, w ∈ j_gws := j_fam j_fC3_p j_fC3_g
theorem j_fK_p : (j_klT).flatMap j_wK = ([46, 83, 40, 153, 291, 366, 410, 32, 268, 361, 402] : List Nat).filterMap (fun i => lw_tbl[i]?) := by decide +kernel
theorem j_fK_g : (j_klT).all (fun t => (j_wK t).all goodWord) = true := by decide +kernel
theorem j_fK_i : ∀ t ∈ j_klT, ∀ w ∈ j_wK t, w ∈ j_gws := j_fam j_fK_p j_fK_g
theorem j_fO_p : (j_olT).flatMap j_wO = ([46, 47, 20, 83, 84, 21, 40, 41, 19, 153, 154, 22, 32, 33, 18] : List Nat).filterMap (fun i => lw_tbl[i]?) := by decide +kernel
theorem j_fO_g : (j_olT).all (fun t => (j_wO t).all goodWord) = true := by decide +kernel
theorem j_fO_i : ∀ t ∈ j_olT, ∀ w ∈ j_wO t, w ∈ j_gws := j_fam j_fO_p j_fO_g
theorem j_fT_p : (j_tlT).flatMap j_wT = ([291, 29, 366, 26, 410, 31] : List Nat).filterMap (fun i => lw_tbl[i]?) := by decide +kernel
theorem j_fT_g : (j_tlT).all (fun t => (j_wT t).all goodWord) = true := by decide +kernel
theorem j_fT_i : ∀ t ∈ j_tlT, ∀ w ∈ j_wT t, w ∈ j_gws := j_fam j_fT_p j_fT_g
theorem j_fKI_p : (j_kiT).flatMap (fun t => [Cond.constant (j_cn t.1) t.2.1 t.2.2]) = ([284, 285, 286, 263, 264] : List Nat).filterMap (fun i => lw_tbl[i]?) := by decide +kernel
theorem j_fKI_g : (j_kiT).all (fun t => ((fun t => [Cond.constant (j_cn t.1) t.2.1 t.2.2]) t).all goodWord) = true := by decide +kernel
theorem j_fKI_i : ∀ t ∈ j_kiT, ∀ w ∈ (fun t => [Cond.constant (j_cn t.1) t.2.1 t.2.2]) t, w ∈ j_gws := j_fam j_fKI_p j_fKI_g
theorem j_fKJ_p : (j_kjT).flatMap (fun t => [Cond.constantLong (j_cn t.1) t.2.1 t.2.2]) = ([534, 538] : List Nat).filterMap (fun i => lw_tbl[i]?) := by decide +kernel
theorem j_fKJ_g : (j_kjT).all (fun t => ((fun t => [Cond.constantLong (j_cn t.1) t.2.1 t.2.2]) t).all goodWord) = true := by decide +kernel
theorem j_fKJ_i : ∀ t ∈ j_kjT, ∀ w ∈ (fun t => [Cond.constantLong (j_cn t.1) t.2.1 t.2.2]) t, w ∈ j_gws := j_fam j_fKJ_p j_fKJ_g
theorem j_fA_p : (([.int, .byte] : List FieldType)).flatMap (fun t => [Cond.arrayClass t]) = ([82, 186] : List Nat).filterMap (fun i => lw_tbl[i]?) := by decide +kernel
theorem j_fA_g : (([.int, .byte] : List FieldType)).all (fun t => ((fun t => [Cond.arrayClass t]) t).all goodWord) = true := by decide +kernel
theorem j_fA_i : ∀ t ∈ ([.int, .byte] : List FieldType), ∀ w ∈ (fun t => [Cond.arrayClass t]) t, w ∈ j_gws := j_fam j_fA_p j_fA_g
theorem j_fS_p : j_srT.map (fun t => Cond.stringRef (j_cn t.1) t.2.1 t.2.2) = ([565, 584, 590, 603, 615, 634, 662, 475, 434, 332, 674, 679, 375, 500, 419, 453] : List Nat).filterMap (fun i => lw_tbl[i]?) := by decide +kernel
theorem j_fN_p : j_nsT.map (fun t => Cond.methodLinkNest (j_cn t.1) t.2.1 t.2.2 "ShipJournal") = ([48, 85, 155, 595] : List Nat).filterMap (fun i => lw_tbl[i]?) := by decide +kernel
def j_pn (y : MethodName) : Bool := plainName y.cls && (y.cls != "java/lang/invoke/MethodHandle" && y.cls != "java/lang/invoke/VarHandle")
def j_np (y : MethodName) : Option Nat := (parseMethodDescriptor y.desc).map (fun d => d.parameters.length)
def j_okM (me : jMe) : Bool := decide (me.2.2.2.1 ≤ 12) && j_pn me.2.1 && decide (me.1 < 9) && decide (j_cn me.1 = me.2.1.cls)
def j_okC (t : Nat × Nat × Nat × Nat) : Bool := match t.2.2.1, j_mt[t.2.2.2]? with
  | 0, some me => decide (me.2.2.2.2.2.1 ≠ 0) && decide (j_np me.2.1 = some (me.2.2.2.2.2.1 - 1)) && me.2.2.2.2.2.2.isEmpty
  | 1, some me => decide (j_np me.2.1 = some me.2.2.2.2.2.1) && me.2.2.2.2.2.2.isEmpty
  | 2, some me => decide (j_np me.2.1 = some me.2.2.2.2.2.1) && !me.2.2.2.2.2.2.isEmpty
  | 3, some me => (me.2.1.name == "<init>") && decide (me.2.2.2.2.2.1 ≠ 0) && decide (j_np me.2.1 = some (me.2.2.2.2.2.1 - 1)) && me.2.2.2.2.2.2.isEmpty && (me.2.2.2.2.1 == none)
  | 4, some me => decide ((t.1, t.2.1, me.2.1) ∈ j_nsT) && (me.2.1.name == "<init>") && decide (me.2.2.2.2.2.1 ≠ 0) && decide (j_np me.2.1 = some (me.2.2.2.2.2.1 - 1)) && me.2.2.2.2.2.2.isEmpty && (me.2.2.2.2.1 == none)
  | 5, some me => decide ((t.1, t.2.1, me.2.1) ∈ j_nsT) && decide (j_np me.2.1 = some me.2.2.2.2.2.1) && me.2.2.2.2.2.2.isEmpty
  | 6, some _ => true
  | 7, some _ => true
  | 8, some _ => true
  | 9, some _ => true
  | _, _ => false
def j_exN : List String := ["java/lang/RuntimeException", "java/lang/Exception"]
theorem j_okF_all : j_flT.all (fun t => decide (t.2.2.1 < 5) && decide (t.2.2.2 < j_nf t.2.2.1)) = true := by decide +kernel
theorem j_okM_all : j_mt.all j_okM = true := by decide +kernel
theorem j_okC_all : j_clT.all j_okC = true := by decide +kernel
theorem j_okO_all : j_olT.all (fun t => decide (t.2.2 < 5)) = true := by decide +kernel
theorem j_okT_all : j_tlT.all (fun t => Bundle.fit t.2.2.1) = true := by decide +kernel
