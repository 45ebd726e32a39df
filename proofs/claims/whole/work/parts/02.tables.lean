/-! tables of the system, printed by wip/whole/gen02.py out of the claim's names; every row is held against the words of lw_tbl below -/
/-- the words that any method may hand on -/
def j_gws : List Cond := lw_tbl.filter goodWord
abbrev jMe : Type := Nat × MethodName × ByteArray × Nat × Option FieldType × Nat × List (Nat × Nat × Nat × Nat)
def j_cn : Nat → String := fun k => match k with
  | 0 => RX0
  | 1 => RX1
  | 2 => RX2
  | 3 => RX3
  | 4 => RX4
  | 5 => RX5
  | 6 => RJ6
  | 7 => RJ9
  | _ => RL
def j_mt0 : List jMe := [(0, yX0_init, cX0_init, 1, none, 1, []), (0, yX0_slot, cX0_slot, 1, (some .int), 1, []), (0, yX0_restart, cX0_restart, 2, none, 2, []), (0, yX0_copyFrom, cX0_copyFrom, 2, none, 2, []), (0, yX0_kept, cX0_kept, 1, (some .int), 1, []), (0, yX0_isFull, cX0_isFull, 1, (some .boolean), 1, []), (0, yX0_isKept, cX0_isKept, 2, (some .boolean), 2, []), (0, yX0_add, cX0_add, 7, (some .int), 5, []), (0, yX0_kindAt, cX0_kindAt, 2, (some .int), 2, []), (0, yX0_holdAAt, cX0_holdAAt, 2, (some .int), 2, []), (0, yX0_holdBAt, cX0_holdBAt, 2, (some .int), 2, []), (0, yX0_amountAt, cX0_amountAt, 2, (some .int), 2, []), (0, yX0_spoiledAt, cX0_spoiledAt, 2, (some .int), 2, []), (0, yX0_canBeRead, cX0_canBeRead, 2, (some .boolean), 2, []), (0, yX0_spoilCopy, cX0_spoilCopy, 4, (some .int), 3, []), (0, yX0_repairOrder, cX0_repairOrder, 4, (some .int), 2, [])]
def j_mt1 : List jMe := [(0, yX0_spoiledCopies, cX0_spoiledCopies, 3, (some .int), 1, []), (0, yX0_unreadableOrders, cX0_unreadableOrders, 3, (some .int), 1, []), (0, yX0_firstUnreadable, cX0_firstUnreadable, 3, (some .int), 2, []), (0, yX0_replayOn, cX0_replayOn, 5, (some .boolean), 4, []), (0, yX0_replayOne, cX0_replayOne, 7, none, 3, []), (0, yX0_moveTons, cX0_moveTons, 5, none, 4, []), (0, yX0_swapTons, cX0_swapTons, 4, none, 3, []), (0, yX0_levelTons, cX0_levelTons, 4, none, 3, []), (1, yX1_init, cX1_init, 1, none, 1, []), (1, yX1_restart, cX1_restart, 2, none, 1, []), (1, yX1_copyFrom, cX1_copyFrom, 2, none, 2, []), (1, yX1_keepSnapshot, cX1_keepSnapshot, 1, none, 1, []), (1, yX1_fallBack, cX1_fallBack, 2, (some .int), 1, []), (1, yX1_sumOfTons, cX1_sumOfTons, 3, (some .int), 1, []), (1, yX1_hasHolds, cX1_hasHolds, 3, (some .boolean), 2, []), (2, yX2_init, cX2_init, 1, none, 1, [])]
def j_mt2 : List jMe := [(2, yX2_restart, cX2_restart, 2, none, 2, []), (2, yX2_copyFrom, cX2_copyFrom, 2, none, 2, []), (2, yX2_shipOf, cX2_shipOf, 2, (some (.object "ShipJournal$Ship")), 2, []), (2, yX2_otherThan, cX2_otherThan, 2, (some (.object "ShipJournal$Ship")), 2, []), (2, yX2_shipBehind, cX2_shipBehind, 1, (some (.object "ShipJournal$Ship")), 1, []), (2, yX2_slowerSnapshot, cX2_slowerSnapshot, 1, (some (.object "ShipJournal$Ship")), 1, []), (2, yX2_linksUp, cX2_linksUp, 1, (some .int), 1, []), (2, yX2_replayedBy, cX2_replayedBy, 2, (some .int), 2, []), (2, yX2_replayOrders, cX2_replayOrders, 4, (some .int), 3, []), (2, yX2_canReplay, cX2_canReplay, 2, (some .boolean), 2, []), (2, yX2_takeSnapshot, cX2_takeSnapshot, 3, (some .int), 2, []), (2, yX2_repairCopies, cX2_repairCopies, 3, (some .int), 1, []), (2, yX2_canRepair, cX2_canRepair, 2, (some .boolean), 2, []), (2, yX2_knowsOrder, cX2_knowsOrder, 2, (some .boolean), 2, []), (3, yX3_init, cX3_init, 1, none, 1, []), (3, yX3_isFull, cX3_isFull, 1, (some .boolean), 1, [])]
def j_mt3 : List jMe := [(3, yX3_add, cX3_add, 2, (some .int), 2, []), (3, yX3_clear, cX3_clear, 2, (some .int), 1, []), (3, yX3_byteAt, cX3_byteAt, 2, (some .int), 2, []), (3, yX3_goToStart, cX3_goToStart, 1, none, 1, []), (3, yX3_isAtEnd, cX3_isAtEnd, 1, (some .boolean), 1, []), (3, yX3_findSyntaxError, cX3_findSyntaxError, 2, (some .int), 1, []), (3, yX3_readCommand, cX3_readCommand, 1, (some .boolean), 1, []), (3, yX3_readSign, cX3_readSign, 2, (some .boolean), 2, []), (3, yX3_readFirst, cX3_readFirst, 2, (some .boolean), 2, []), (3, yX3_readSecond, cX3_readSecond, 2, (some .boolean), 2, []), (3, yX3_readDigit, cX3_readDigit, 3, (some .int), 2, []), (3, yX3_readNumber, cX3_readNumber, 3, (some .boolean), 1, []), (3, yX3_isDigit, cX3_isDigit, 1, (some .boolean), 1, []), (4, yX4_init, cX4_init, 2, none, 1, []), (4, yX4_begin, cX4_begin, 3, (some .int), 2, []), (4, yX4_write, cX4_write, 5, (some .int), 5, [])]
def j_mt4 : List jMe := [(4, yX4_spoil, cX4_spoil, 3, (some .int), 3, []), (4, yX4_repair, cX4_repair, 1, (some .int), 1, []), (4, yX4_replay, cX4_replay, 3, (some .int), 3, []), (4, yX4_snapshot, cX4_snapshot, 2, (some .int), 2, []), (4, yX4_crash, cX4_crash, 2, (some .int), 2, []), (4, yX4_link, cX4_link, 3, (some .int), 3, []), (4, yX4_order, cX4_order, 3, (some .int), 3, []), (4, yX4_ship, cX4_ship, 4, (some .int), 3, []), (4, yX4_hold, cX4_hold, 3, (some .int), 3, []), (4, yX4_value, cX4_value, 2, (some .int), 2, []), (4, yX4_ahead, cX4_ahead, 3, (some .int), 2, []), (4, yX4_stop, cX4_stop, 2, (some .int), 2, []), (4, yX4_tonsAt, cX4_tonsAt, 5, (some .int), 3, []), (4, yX4_agree, cX4_agree, 3, (some .int), 1, []), (4, yX4_roomBy, cX4_roomBy, 4, (some .int), 2, []), (4, yX4_slower, cX4_slower, 1, (some .int), 1, [])]
def j_mt5 : List jMe := [(4, yX4_fullness, cX4_fullness, 1, (some .double), 1, []), (4, yX4_append, cX4_append, 2, (some .int), 2, []), (4, yX4_clearText, cX4_clearText, 1, (some .int), 1, []), (4, yX4_carryOut, cX4_carryOut, 3, (some .int), 1, []), (4, yX4_undo, cX4_undo, 1, (some .int), 1, []), (4, yX4_digest, cX4_digest, 4, (some .long), 1, []), (4, yX4_mix, cX4_mix, 4, (some .long), 2, []), (4, yX4_mixOrders, cX4_mixOrders, 7, (some .long), 2, []), (4, yX4_mixShips, cX4_mixShips, 7, (some .long), 2, []), (4, yX4_mixForecasts, cX4_mixForecasts, 6, (some .long), 2, []), (4, yX4_isOrder, cX4_isOrder, 4, (some .boolean), 4, []), (4, yX4_usesHoldB, cX4_usesHoldB, 1, (some .boolean), 1, []), (4, yX4_isHold, cX4_isHold, 1, (some .boolean), 1, []), (4, yX4_requireHold, cX4_requireHold, 1, none, 1, []), (4, yX4_requireShip, cX4_requireShip, 1, none, 1, []), (4, yX4_requireKept, cX4_requireKept, 2, none, 2, [])]
def j_mt6 : List jMe := [(4, yX4_saveState, cX4_saveState, 3, none, 1, []), (4, yX4_obeyCommand, cX4_obeyCommand, 1, (some .boolean), 1, []), (4, yX4_obeyWrite, cX4_obeyWrite, 2, (some .boolean), 2, []), (4, yX4_obeySnapshot, cX4_obeySnapshot, 2, (some .boolean), 1, []), (5, yX5_init, cX5_init, 1, none, 1, []), (5, yX5_thrown, cX5_thrown, 1, (some .int), 1, []), (5, yX5_fails, cX5_fails, 2, (some .int), 2, []), (5, yX5_well, cX5_well, 2, (some .int), 2, []), (5, yX5_in, cX5_in, 3, (some .boolean), 3, []), (5, yX5_fresh, cX5_fresh, 3, none, 2, []), (5, yX5_of, cX5_of, 3, (some .int), 3, []), (5, yX5_puts, cX5_puts, 4, none, 4, []), (5, yX5_told, cX5_told, 3, (some .int), 3, []), (5, yX5_tells, cX5_tells, 4, none, 4, []), (5, yX5_isShip, cX5_isShip, 1, (some .boolean), 1, []), (5, yX5_isKept, cX5_isKept, 2, (some .boolean), 2, [])]
def j_mt7 : List jMe := [(5, yX5_isReadable, cX5_isReadable, 2, (some .boolean), 2, []), (5, yX5_many, cX5_many, 1, (some .int), 1, []), (5, yX5_asides, cX5_asides, 2, none, 1, []), (5, yX5_saves, cX5_saves, 2, none, 1, []), (5, yX5_ends, cX5_ends, 2, (some .int), 2, []), (5, yX5_undo, cX5_undo, 2, (some .int), 1, []), (5, yX5_does, cX5_does, 9, none, 4, []), (5, yX5_stopOf, cX5_stopOf, 3, (some .int), 2, []), (5, yX5_couldReplay, cX5_couldReplay, 2, (some .int), 2, []), (5, yX5_leastSnapshot, cX5_leastSnapshot, 1, (some .int), 1, []), (5, yX5_writes, cX5_writes, 5, (some .int), 5, []), (5, yX5_replays, cX5_replays, 5, (some .int), 3, []), (5, yX5_snaps, cX5_snaps, 3, (some .int), 2, []), (5, yX5_crashes, cX5_crashes, 3, (some .int), 2, []), (5, yX5_begin, cX5_begin, 3, (some .int), 2, []), (5, yX5_write, cX5_write, 5, (some .int), 5, [])]
def j_mt8 : List jMe := [(5, yX5_ones, cX5_ones, 1, (some .int), 1, []), (5, yX5_spoil, cX5_spoil, 3, (some .int), 3, []), (5, yX5_isKnown, cX5_isKnown, 2, (some .boolean), 2, []), (5, yX5_repair, cX5_repair, 3, (some .int), 1, []), (5, yX5_replay, cX5_replay, 3, (some .int), 3, []), (5, yX5_snapshot, cX5_snapshot, 2, (some .int), 2, []), (5, yX5_crash, cX5_crash, 2, (some .int), 2, []), (5, yX5_link, cX5_link, 4, (some .int), 3, []), (5, yX5_orderNumber, cX5_orderNumber, 3, (some .int), 3, []), (5, yX5_order, cX5_order, 3, (some .int), 3, []), (5, yX5_shipNumber, cX5_shipNumber, 5, (some .int), 3, []), (5, yX5_ship, cX5_ship, 3, (some .int), 3, []), (5, yX5_hold, cX5_hold, 3, (some .int), 3, []), (5, yX5_spoiled, cX5_spoiled, 4, (some .int), 2, []), (5, yX5_number, cX5_number, 2, (some .int), 2, []), (5, yX5_value, cX5_value, 2, (some .int), 2, [])]
def j_mt9 : List jMe := [(5, yX5_ahead, cX5_ahead, 2, (some .int), 2, []), (5, yX5_stop, cX5_stop, 2, (some .int), 2, []), (5, yX5_thinks, cX5_thinks, 5, (some .boolean), 3, []), (5, yX5_takes, cX5_takes, 4, none, 3, []), (5, yX5_slow, cX5_slow, 1, (some .int), 1, []), (5, yX5_tons, cX5_tons, 3, (some .int), 3, []), (5, yX5_tonsAt, cX5_tonsAt, 3, (some .int), 3, []), (5, yX5_agrees, cX5_agrees, 3, (some .int), 1, []), (5, yX5_agree, cX5_agree, 1, (some .int), 1, []), (5, yX5_roomBy, cX5_roomBy, 4, (some .int), 2, []), (5, yX5_slower, cX5_slower, 1, (some .int), 1, []), (5, yX5_fullness, cX5_fullness, 1, (some .double), 1, []), (5, yX5_append, cX5_append, 2, (some .int), 2, []), (5, yX5_clearText, cX5_clearText, 2, (some .int), 1, []), (5, yX5_here, cX5_here, 1, (some .int), 1, []), (5, yX5_wrong, cX5_wrong, 2, none, 2, [])]
def j_mt10 : List jMe := [(5, yX5_sign, cX5_sign, 2, none, 2, []), (5, yX5_digit, cX5_digit, 3, (some .int), 2, []), (5, yX5_isDigit, cX5_isDigit, 1, (some .boolean), 1, []), (5, yX5_readAmount, cX5_readAmount, 3, (some .int), 1, []), (5, yX5_reads, cX5_reads, 1, none, 1, []), (5, yX5_faultOf, cX5_faultOf, 1, (some .int), 1, []), (5, yX5_carries, cX5_carries, 1, (some .int), 1, []), (5, yX5_carryOut, cX5_carryOut, 3, (some .int), 1, []), (5, yX5_hashes, cX5_hashes, 2, none, 2, []), (5, yX5_digest, cX5_digest, 3, (some .long), 1, []), (6, yJ6_bitCount_0f7a4, cJ6_bitCount_0f7a4, 1, (some .int), 1, []), (8, yL_begin, cL_begin, 4, (some .int), 3, [(0, 9, 12, 13)]), (8, yL_write, cL_write, 7, (some .int), 6, [(0, 14, 17, 13), (0, 14, 21, 19)]), (8, yL_spoil, cL_spoil, 5, (some .int), 4, [(0, 10, 13, 25), (0, 10, 17, 13)]), (8, yL_replay, cL_replay, 5, (some .int), 4, [(0, 10, 13, 25), (0, 10, 17, 13)]), (8, yL_snapshot, cL_snapshot, 4, (some .int), 3, [(0, 9, 12, 25), (0, 9, 15, 19)])]
def j_mt11 : List jMe := [(8, yL_crash, cL_crash, 4, (some .int), 3, [(0, 9, 12, 25)]), (8, yL_link, cL_link, 5, (some .int), 4, [(0, 10, 13, 25), (0, 10, 17, 19)]), (8, yL_order, cL_order, 5, (some .int), 4, [(0, 10, 13, 25), (0, 10, 17, 13)]), (8, yL_ship, cL_ship, 5, (some .int), 4, [(0, 10, 13, 25), (0, 10, 17, 13)]), (8, yL_hold, cL_hold, 5, (some .int), 4, [(0, 10, 13, 25)]), (8, yL_value, cL_value, 4, (some .int), 3, [(0, 9, 12, 13)]), (8, yL_ahead, cL_ahead, 4, (some .int), 3, [(0, 9, 12, 25)]), (8, yL_stop, cL_stop, 4, (some .int), 3, [(0, 9, 12, 25)]), (8, yL_tonsAt, cL_tonsAt, 5, (some .int), 4, [(0, 10, 13, 25)]), (8, yL_roomBy, cL_roomBy, 4, (some .int), 3, [(0, 9, 12, 25)]), (8, yL_append, cL_append, 4, (some .int), 3, [(0, 9, 12, 13), (0, 9, 15, 19)]), (8, yL_undo, cL_undo, 3, (some .int), 2, [(0, 8, 11, 19)]), (8, yL_law, cL_law, 9, (some .boolean), 1, [])]
def j_mt : List jMe := j_mt0 ++ (j_mt1 ++ (j_mt2 ++ (j_mt3 ++ (j_mt4 ++ (j_mt5 ++ (j_mt6 ++ (j_mt7 ++ (j_mt8 ++ (j_mt9 ++ (j_mt10 ++ (j_mt11)))))))))))
def j_flT : List (Nat × Nat × Nat × Nat) := [(0, 9, 0, 3), (0, 15, 0, 4), (0, 18, 0, 5), (0, 21, 0, 6), (0, 24, 0, 7), (0, 27, 0, 0), (0, 31, 0, 1), (0, 34, 0, 2), (1, 9, 1, 5), (1, 15, 1, 6), (1, 18, 1, 0), (1, 22, 1, 1), (1, 25, 1, 2), (1, 29, 1, 3), (1, 32, 1, 4), (2, 12, 2, 0), (2, 21, 2, 1), (2, 25, 2, 2), (2, 35, 2, 3), (2, 46, 1, 0), (2, 49, 1, 1), (2, 52, 1, 2), (2, 60, 1, 5), (2, 68, 1, 3), (2, 81, 0, 1), (2, 88, 0, 2), (3, 9, 3, 0), (3, 15, 3, 1), (3, 19, 3, 2), (3, 22, 3, 3), (3, 25, 3, 4), (3, 28, 3, 5), (3, 31, 3, 6), (4, 10, 4, 0), (4, 16, 4, 1), (4, 20, 4, 2), (4, 27, 4, 3), (4, 31, 4, 4), (4, 45, 2, 0), (4, 103, 1, 2), (4, 144, 1, 0), (4, 147, 1, 1), (4, 153, 1, 3), (4, 156, 1, 4), (4, 164, 1, 5), (4, 167, 0, 0), (4, 170, 0, 1), (4, 173, 0, 2), (4, 182, 2, 3), (4, 194, 1, 6), (4, 223, 2, 1), (4, 227, 2, 2), (4, 263, 3, 0), (4, 322, 3, 3), (4, 328, 3, 4), (4, 330, 3, 6), (4, 336, 3, 5), (5, 7, 5, 0), (5, 13, 5, 1), (5, 16, 5, 3), (5, 19, 5, 4), (5, 22, 5, 6), (5, 29, 5, 7), (5, 41, 5, 2), (5, 51, 5, 8), (5, 149, 5, 5), (5, 152, 5, 9), (5, 155, 5, 10), (5, 167, 5, 11), (5, 173, 5, 12), (5, 176, 5, 13), (5, 185, 5, 14), (5, 199, 5, 15)]
def j_clT0 : List (Nat × Nat × Nat × Nat) := [(0, 3, 6, 0), (0, 37, 7, 0), (0, 43, 0, 4), (0, 47, 1, 1), (0, 51, 5, 91), (0, 55, 0, 12), (0, 58, 1, 170), (0, 63, 0, 13), (0, 66, 0, 20), (0, 70, 9, 0), (0, 76, 8, 0), (0, 79, 1, 21), (0, 83, 1, 22), (0, 87, 1, 23), (1, 3, 6, 0), (1, 35, 7, 0), (2, 3, 6, 0), (2, 11, 4, 0), (2, 20, 4, 24), (2, 28, 0, 32), (2, 32, 0, 2), (2, 33, 0, 25), (2, 39, 0, 3), (2, 43, 0, 26), (2, 56, 0, 41), (2, 64, 0, 20), (2, 71, 0, 6), (2, 75, 0, 13), (2, 78, 0, 27), (2, 84, 0, 37), (2, 91, 0, 44), (2, 94, 0, 15), (2, 98, 1, 45), (3, 3, 6, 0), (3, 34, 0, 51), (3, 37, 0, 52), (3, 41, 0, 54), (3, 44, 0, 50), (3, 48, 0, 55), (3, 52, 0, 56)]
def j_clT1 : List (Nat × Nat × Nat × Nat) := [(3, 55, 0, 59), (3, 58, 0, 57), (3, 61, 0, 58), (3, 64, 1, 60), (4, 1, 6, 0), (4, 9, 3, 31), (4, 26, 4, 46), (4, 42, 0, 96), (4, 49, 0, 4), (4, 55, 0, 32), (4, 59, 1, 90), (4, 65, 0, 5), (4, 74, 0, 7), (4, 78, 0, 95), (4, 83, 0, 14), (4, 87, 0, 43), (4, 90, 1, 94), (4, 95, 0, 34), (4, 99, 0, 40), (4, 111, 0, 42), (4, 115, 0, 28), (4, 120, 0, 38), (4, 123, 0, 8), (4, 127, 0, 9), (4, 130, 0, 10), (4, 133, 0, 11), (4, 136, 0, 12), (4, 139, 0, 39), (4, 150, 0, 29), (4, 161, 1, 93), (4, 176, 0, 16), (4, 179, 0, 17), (4, 187, 0, 18), (4, 190, 0, 37), (4, 197, 7, 0), (4, 203, 0, 19), (4, 207, 0, 36), (4, 210, 0, 35), (4, 214, 0, 30), (4, 218, 9, 0)]
def j_clT2 : List (Nat × Nat × Nat × Nat) := [(4, 232, 0, 47), (4, 235, 0, 48), (4, 237, 0, 49), (4, 240, 0, 53), (4, 243, 0, 51), (4, 246, 0, 52), (4, 249, 0, 54), (4, 252, 0, 97), (4, 257, 0, 33), (4, 266, 1, 86), (4, 270, 0, 73), (4, 273, 0, 87), (4, 277, 0, 88), (4, 280, 0, 89), (4, 285, 0, 70), (4, 288, 0, 71), (4, 291, 0, 72), (4, 294, 0, 74), (4, 297, 0, 77), (4, 300, 0, 76), (4, 303, 1, 92), (4, 307, 1, 91), (4, 317, 0, 6), (4, 325, 0, 98), (4, 333, 0, 99), (5, 1, 6, 0), (5, 25, 0, 105), (5, 33, 1, 104), (5, 37, 0, 108), (5, 44, 0, 102), (5, 48, 0, 115), (5, 54, 0, 103), (5, 57, 0, 106), (5, 60, 0, 112), (5, 64, 0, 119), (5, 67, 0, 113), (5, 71, 0, 109), (5, 75, 1, 110), (5, 78, 0, 120), (5, 81, 0, 118)]
def j_clT3 : List (Nat × Nat × Nat × Nat) := [(5, 85, 0, 107), (5, 88, 0, 121), (5, 91, 0, 114), (5, 94, 0, 122), (5, 98, 0, 116), (5, 101, 0, 111), (5, 104, 1, 128), (5, 107, 0, 130), (5, 110, 0, 123), (5, 113, 0, 124), (5, 116, 0, 125), (5, 119, 0, 136), (5, 122, 0, 138), (5, 125, 0, 141), (5, 129, 0, 142), (5, 132, 0, 148), (5, 135, 0, 147), (5, 139, 0, 146), (5, 143, 0, 149), (5, 146, 0, 151), (5, 158, 0, 158), (5, 161, 0, 159), (5, 164, 1, 162), (5, 170, 0, 161), (5, 179, 0, 160), (5, 182, 0, 163), (5, 188, 0, 164), (5, 191, 0, 165), (5, 194, 0, 166), (5, 205, 0, 168), (8, 7, 0, 62), (8, 15, 0, 63), (8, 21, 0, 64), (8, 27, 0, 66), (8, 30, 0, 67), (8, 33, 0, 68), (8, 36, 0, 69), (8, 40, 0, 70), (8, 43, 0, 71), (8, 46, 0, 72)]
def j_clT4 : List (Nat × Nat × Nat × Nat) := [(8, 49, 0, 73), (8, 52, 0, 74), (8, 55, 0, 75), (8, 58, 0, 76), (8, 61, 0, 78), (8, 64, 0, 81), (8, 67, 0, 84), (8, 71, 3, 61), (8, 74, 3, 100), (8, 75, 2, 171), (8, 80, 0, 126), (8, 81, 0, 101), (8, 84, 2, 172), (8, 87, 0, 127), (8, 88, 2, 173), (8, 91, 0, 129), (8, 92, 0, 65), (8, 95, 0, 131), (8, 96, 2, 174), (8, 98, 0, 132), (8, 99, 2, 175), (8, 101, 0, 133), (8, 102, 2, 176), (8, 104, 0, 134), (8, 105, 2, 177), (8, 108, 0, 135), (8, 109, 2, 178), (8, 111, 0, 137), (8, 112, 2, 179), (8, 114, 0, 139), (8, 115, 2, 180), (8, 117, 0, 140), (8, 118, 2, 181), (8, 120, 0, 143), (8, 121, 2, 182), (8, 123, 0, 144), (8, 124, 2, 183), (8, 126, 0, 145), (8, 127, 2, 184), (8, 129, 0, 150)]
def j_clT5 : List (Nat × Nat × Nat × Nat) := [(8, 130, 0, 77), (8, 133, 0, 152), (8, 134, 2, 185), (8, 136, 0, 153), (8, 137, 0, 79), (8, 140, 0, 154), (8, 141, 0, 80), (8, 145, 0, 155), (8, 146, 2, 186), (8, 148, 0, 156), (8, 149, 0, 82), (8, 152, 0, 157), (8, 153, 0, 83), (8, 156, 0, 167), (8, 157, 2, 187), (8, 160, 0, 117), (8, 161, 0, 85), (8, 165, 0, 169)]
def j_clT : List (Nat × Nat × Nat × Nat) := j_clT0 ++ (j_clT1 ++ (j_clT2 ++ (j_clT3 ++ (j_clT4 ++ (j_clT5)))))
def j_klT : List (Nat × Nat × String) := [(2, 9, RX0), (2, 18, RX1), (4, 7, RX2), (4, 24, RX3), (4, 35, "java/lang/IllegalArgumentException"), (4, 69, "java/lang/IllegalStateException"), (4, 310, "java/lang/IndexOutOfBoundsException"), (8, 8, RX4), (8, 13, "java/lang/IllegalArgumentException"), (8, 19, "java/lang/IllegalStateException"), (8, 25, "java/lang/IndexOutOfBoundsException"), (8, 72, RX5)]
def j_olT : List (Nat × Nat × Nat) := [(2, 9, 0), (2, 18, 1), (4, 7, 2), (4, 24, 3), (8, 8, 4), (8, 72, 5)]
def j_kiT : List (Nat × Nat × Int32) := [(6, 265, 1431655765), (6, 266, 858993459), (6, 267, 252645135)]
def j_kjT : List (Nat × Nat × Int64) := [(4, 261, 3797), (4, 283, 31), (5, 203, 3797), (5, 197, 31)]
def j_tlT : List (Nat × Nat × String × Nat) := [(4, 35, "java/lang/IllegalArgumentException", 39), (4, 69, "java/lang/IllegalStateException", 73), (4, 310, "java/lang/IndexOutOfBoundsException", 314)]
def j_srT : List (Nat × Nat × String) := [(4, 37, "places out of range"), (4, 63, "no such order"), (4, 71, "the ring is full"), (4, 81, "no such copy"), (4, 93, "orders out of range"), (4, 109, "the link is lost"), (4, 118, "the link is so already"), (4, 142, "no such value of an order"), (4, 159, "no such value of a ship"), (4, 185, "no such value"), (4, 230, "no byte of a text"), (4, 233, "the text is full"), (4, 255, "no saved state"), (4, 312, "no such hold"), (4, 315, "no such ship"), (4, 320, "no such order is kept")]
def j_nsT : List (Nat × Nat × MethodName) := [(2, 11, yX0_init), (2, 20, yX1_init), (4, 26, yX3_init), (0, 51, yX4_usesHoldB)]
/-- names of the methods by number, for reading: 0 yX0_init, 1 yX0_slot, 2 yX0_restart, 3 yX0_copyFrom, 4 yX0_kept, 5 yX0_isFull, 6 yX0_isKept, 7 yX0_add, 8 yX0_kindAt, 9 yX0_holdAAt, 10 yX0_holdBAt, 11 yX0_amountAt, 12 yX0_spoiledAt, 13 yX0_canBeRead, 14 yX0_spoilCopy, 15 yX0_repairOrder, 16 yX0_spoiledCopies, 17 yX0_unreadableOrders, 18 yX0_firstUnreadable, 19 yX0_replayOn, 20 yX0_replayOne, 21 yX0_moveTons, 22 yX0_swapTons, 23 yX0_levelTons, 24 yX1_init, 25 yX1_restart, 26 yX1_copyFrom, 27 yX1_keepSnapshot, 28 yX1_fallBack, 29 yX1_sumOfTons, 30 yX1_hasHolds, 31 yX2_init, 32 yX2_restart, 33 yX2_copyFrom, 34 yX2_shipOf, 35 yX2_otherThan, 36 yX2_shipBehind, 37 yX2_slowerSnapshot, 38 yX2_linksUp, 39 yX2_replayedBy, 40 yX2_replayOrders, 41 yX2_canReplay, 42 yX2_takeSnapshot, 43 yX2_repairCopies, 44 yX2_canRepair, 45 yX2_knowsOrder, 46 yX3_init, 47 yX3_isFull, 48 yX3_add, 49 yX3_clear, 50 yX3_byteAt, 51 yX3_goToStart, 52 yX3_isAtEnd, 53 yX3_findSyntaxError, 54 yX3_readCommand, 55 yX3_readSign, 56 yX3_readFirst, 57 yX3_readSecond, 58 yX3_readDigit, 59 yX3_readNumber, 60 yX3_isDigit, 61 yX4_init, 62 yX4_begin, 63 yX4_write, 64 yX4_spoil, 65 yX4_repair, 66 yX4_replay, 67 yX4_snapshot, 68 yX4_crash, 69 yX4_link, 70 yX4_order, 71 yX4_ship, 72 yX4_hold, 73 yX4_value, 74 yX4_ahead, 75 yX4_stop, 76 yX4_tonsAt, 77 yX4_agree, 78 yX4_roomBy, 79 yX4_slower, 80 yX4_fullness, 81 yX4_append, 82 yX4_clearText, 83 yX4_carryOut, 84 yX4_undo, 85 yX4_digest, 86 yX4_mix, 87 yX4_mixOrders, 88 yX4_mixShips, 89 yX4_mixForecasts, 90 yX4_isOrder, 91 yX4_usesHoldB, 92 yX4_isHold, 93 yX4_requireHold, 94 yX4_requireShip, 95 yX4_requireKept, 96 yX4_saveState, 97 yX4_obeyCommand, 98 yX4_obeyWrite, 99 yX4_obeySnapshot, 100 yX5_init, 101 yX5_thrown, 102 yX5_fails, 103 yX5_well, 104 yX5_in, 105 yX5_fresh, 106 yX5_of, 107 yX5_puts, 108 yX5_told, 109 yX5_tells, 110 yX5_isShip, 111 yX5_isKept, 112 yX5_isReadable, 113 yX5_many, 114 yX5_asides, 115 yX5_saves, 116 yX5_ends, 117 yX5_undo, 118 yX5_does, 119 yX5_stopOf, 120 yX5_couldReplay, 121 yX5_leastSnapshot, 122 yX5_writes, 123 yX5_replays, 124 yX5_snaps, 125 yX5_crashes, 126 yX5_begin, 127 yX5_write, 128 yX5_ones, 129 yX5_spoil, 130 yX5_isKnown, 131 yX5_repair, 132 yX5_replay, 133 yX5_snapshot, 134 yX5_crash, 135 yX5_link, 136 yX5_orderNumber, 137 yX5_order, 138 yX5_shipNumber, 139 yX5_ship, 140 yX5_hold, 141 yX5_spoiled, 142 yX5_number, 143 yX5_value, 144 yX5_ahead, 145 yX5_stop, 146 yX5_thinks, 147 yX5_takes, 148 yX5_slow, 149 yX5_tons, 150 yX5_tonsAt, 151 yX5_agrees, 152 yX5_agree, 153 yX5_roomBy, 154 yX5_slower, 155 yX5_fullness, 156 yX5_append, 157 yX5_clearText, 158 yX5_here, 159 yX5_wrong, 160 yX5_sign, 161 yX5_digit, 162 yX5_isDigit, 163 yX5_readAmount, 164 yX5_reads, 165 yX5_faultOf, 166 yX5_carries, 167 yX5_carryOut, 168 yX5_hashes, 169 yX5_digest, 170 yJ6_bitCount_0f7a4, 171 yL_begin, 172 yL_write, 173 yL_spoil, 174 yL_replay, 175 yL_snapshot, 176 yL_crash, 177 yL_link, 178 yL_order, 179 yL_ship, 180 yL_hold, 181 yL_value, 182 yL_ahead, 183 yL_stop, 184 yL_tonsAt, 185 yL_roomBy, 186 yL_append, 187 yL_undo, 188 yL_law -/
theorem j_fam {α : Type} {l : List α} {f : α → List Cond} {ps : List Nat} (hp : l.flatMap f = ps.filterMap (fun i => lw_tbl[i]?)) (hg : l.all (fun t => (f t).all goodWord) = true) : ∀ t ∈ l, ∀ w ∈ f t, w ∈ j_gws := by
  intro t ht w hw
  have h1 : w ∈ ps.filterMap (fun i => lw_tbl[i]?) := hp ▸ List.mem_flatMap.mpr ⟨t, ht, hw⟩
  obtain ⟨i, -, hi⟩ := List.mem_filterMap.mp h1
  exact List.mem_filter.mpr ⟨List.mem_of_getElem? hi, List.all_eq_true.mp (List.all_eq_true.mp hg t ht) w hw⟩
theorem j_famM {α : Type} {l : List α} {f : α → Cond} {ps : List Nat} (hp : l.map f = ps.filterMap (fun i => lw_tbl[i]?)) : ∀ t ∈ l, f t ∈ lw_tbl := by
  intro t ht
  have h1 : f t ∈ ps.filterMap (fun i => lw_tbl[i]?) := hp ▸ List.mem_map.mpr ⟨t, ht, rfl⟩
  obtain ⟨i, -, hi⟩ := List.mem_filterMap.mp h1
  exact List.mem_of_getElem? hi
def j_T : Nat → u_T := fun k => match k with
  | 0 => TX0
  | 1 => TX1
  | 2 => TX2
  | 3 => TX3
  | 4 => TX4
  | _ => TX5
def j_ty : Nat → Nat → FieldType := fun k => match k with
  | 0 => tyX0
  | 1 => tyX1
  | 2 => tyX2
  | 3 => tyX3
  | 4 => tyX4
  | _ => tyX5
def j_nf : Nat → Nat := fun k => match k with
  | 0 => 8
  | 1 => 7
  | 2 => 4
  | 3 => 7
  | 4 => 5
  | _ => 16
theorem j_cl_at : ∀ k, k < 6 → vwCl[k]? = some (j_cn k, j_T k, j_nf k) := by
  intro k hk
  rcases (show k = 0 ∨ k = 1 ∨ k = 2 ∨ k = 3 ∨ k = 4 ∨ k = 5 by omega) with rfl | rfl | rfl | rfl | rfl | rfl <;> rfl
def j_wF (t : Nat × Nat × Nat × Nat) : List Cond := [.fieldLink (j_cn t.1) t.2.1 (j_T t.2.2.1 t.2.2.2).1 (j_T t.2.2.1 t.2.2.2).2.1 (j_T t.2.2.1 t.2.2.2).2.2.1]
def j_wM (me : jMe) : List Cond := match me.2.2.2.2.2.2 with
  | [] => [.code me.2.1 me.2.2.1 me.2.2.2.1 me.2.2.2.2.1]
  | hh => [.codeWith me.2.1 me.2.2.1 me.2.2.2.1 me.2.2.2.2.1 hh]
def j_wC (t : Nat × Nat × Nat × Nat) : List Cond := match t.2.2.1, j_mt[t.2.2.2]? with
  | 0, some me => [.methodLink (j_cn t.1) t.2.1 me.2.1, .instanceMethod me.2.1, .selects me.2.1.cls me.2.1 me.2.1]
  | 1, some me => [.methodLink (j_cn t.1) t.2.1 me.2.1, .static me.2.1]
  | 2, some me => [.methodLink (j_cn t.1) t.2.1 me.2.1, .static me.2.1]
  | 3, some me => [.methodLink (j_cn t.1) t.2.1 me.2.1, .instanceMethod me.2.1]
  | 4, some me => [.instanceMethod me.2.1]
  | 5, some me => [.static me.2.1]
  | 6, some _ => [.methodLink (j_cn t.1) t.2.1 objectInit, .instanceMethod objectInit, .code objectInit ⟨#[0xb1]⟩ 1 none]
  | 8, some _ => [.methodLink (j_cn t.1) t.2.1 Lib.Math.max.name, .static Lib.Math.max.name, .initialized "java/lang/Math", .code Lib.Math.max.name Lib.Math.max.code 2 (some .int)]
  | 9, some _ => [.methodLink (j_cn t.1) t.2.1 Lib.Math.min.name, .static Lib.Math.min.name, .initialized "java/lang/Math", .code Lib.Math.min.name Lib.Math.min.code 2 (some .int)]
  | _, _ => [.methodLink (j_cn t.1) t.2.1 arraycopyName, .native arraycopyName, .static arraycopyName, .initialized "java/lang/System"]
def j_wK (t : Nat × Nat × String) : List Cond := [.classLink (j_cn t.1) t.2.1 t.2.2]
def j_wO (t : Nat × Nat × Nat) : List Cond := [.classLink (j_cn t.1) t.2.1 (j_cn t.2.2), .instantiable (j_cn t.2.2) (j_nf t.2.2), .initialized (j_cn t.2.2)]
def j_wT (t : Nat × Nat × String × Nat) : List Cond := [.classLink (j_cn t.1) t.2.1 t.2.2.1, .initialized t.2.2.1]
theorem j_fF_p : (j_flT).flatMap j_wF = ([101, 102, 103, 104, 105, 93, 95, 98, 144, 147, 130, 133, 136, 139, 142, 176, 178, 180, 182, 131, 134, 138, 145, 140, 96, 99, 200, 202, 203, 204, 206, 208, 210, 228, 229, 230, 231, 232, 177, 137, 132, 135, 141, 143, 146, 94, 97, 100, 183, 148, 179, 181, 201, 205, 207, 211, 209, 814, 815, 817, 818, 820, 821, 816, 822, 819, 823, 824, 825, 826, 827, 828, 829] : List Nat).filterMap (fun i => lw_tbl[i]?) := by decide +kernel
theorem j_fF_g : (j_flT).all (fun t => (j_wF t).all goodWord) = true := by decide +kernel
theorem j_fF_i : ∀ t ∈ j_flT, ∀ w ∈ j_wF t, w ∈ j_gws := j_fam j_fF_p j_fF_g
theorem j_fM0_p : (j_mt0).flatMap j_wM = ([91, 286, 171, 259, 352, 431, 453, 436, 595, 599, 603, 607, 283, 279, 704, 293] : List Nat).filterMap (fun i => lw_tbl[i]?) := by decide +kernel
theorem j_fM0_g : (j_mt0).all (fun t => (j_wM t).all goodWord) = true := by decide +kernel
theorem j_fM0_i : ∀ t ∈ j_mt0, ∀ w ∈ j_wM t, w ∈ j_gws := j_fam j_fM0_p j_fM0_g
theorem j_fM1_p : (j_mt1).flatMap j_wM = ([491, 495, 650, 316, 321, 330, 333, 336, 128, 175, 266, 466, 474, 629, 340, 85] : List Nat).filterMap (fun i => lw_tbl[i]?) := by decide +kernel
theorem j_fM1_g : (j_mt1).all (fun t => (j_wM t).all goodWord) = true := by decide +kernel
theorem j_fM1_i : ∀ t ∈ j_mt1, ∀ w ∈ j_wM t, w ∈ j_gws := j_fam j_fM1_p j_fM1_g
theorem j_fM2_p : (j_mt2).flatMap j_wM = ([167, 255, 441, 311, 307, 470, 739, 612, 445, 449, 462, 271, 275, 289, 198, 790] : List Nat).filterMap (fun i => lw_tbl[i]?) := by decide +kernel
theorem j_fM2_g : (j_mt2).all (fun t => (j_wM t).all goodWord) = true := by decide +kernel
theorem j_fM2_i : ∀ t ∈ j_mt2, ∀ w ∈ j_wM t, w ∈ j_gws := j_fam j_fM2_p j_fM2_g
theorem j_fM3_p : (j_mt3).flatMap j_wM = ([795, 360, 384, 372, 376, 368, 380, 388, 392, 407, 396, 400, 403, 77, 664, 674] : List Nat).filterMap (fun i => lw_tbl[i]?) := by decide +kernel
theorem j_fM3_g : (j_mt3).all (fun t => (j_wM t).all goodWord) = true := by decide +kernel
theorem j_fM3_i : ∀ t ∈ j_mt3, ∀ w ∈ j_wM t, w ∈ j_gws := j_fam j_fM3_p j_fM3_g
theorem j_fM4_p : (j_mt4).flatMap j_wM = ([699, 247, 711, 719, 727, 734, 570, 621, 634, 487, 646, 766, 655, 303, 777, 344] : List Nat).filterMap (fun i => lw_tbl[i]?) := by decide +kernel
theorem j_fM4_g : (j_mt4).all (fun t => (j_wM t).all goodWord) = true := by decide +kernel
theorem j_fM4_i : ∀ t ∈ j_mt4, ∀ w ∈ j_wM t, w ∈ j_gws := j_fam j_fM4_p j_fM4_g
theorem j_fM5_p : (j_mt5).flatMap j_wM = ([348, 785, 356, 364, 802, 478, 482, 566, 617, 642, 421, 427, 424, 637, 624, 574] : List Nat).filterMap (fun i => lw_tbl[i]?) := by decide +kernel
theorem j_fM5_g : (j_mt5).all (fun t => (j_wM t).all goodWord) = true := by decide +kernel
theorem j_fM5_i : ∀ t ∈ j_mt5, ∀ w ∈ j_wM t, w ∈ j_gws := j_fam j_fM5_p j_fM5_g
theorem j_fM6_p : (j_mt6).flatMap j_wM = ([251, 414, 418, 458, 808, 866, 874, 878, 885, 813, 944, 971, 925, 909, 955, 921] : List Nat).filterMap (fun i => lw_tbl[i]?) := by decide +kernel
theorem j_fM6_g : (j_mt6).all (fun t => (j_wM t).all goodWord) = true := by decide +kernel
theorem j_fM6_i : ∀ t ∈ j_mt6, ∀ w ∈ j_wM t, w ∈ j_gws := j_fam j_fM6_p j_fM6_g
theorem j_fM7_p : (j_mt7).flatMap j_wM = ([936, 897, 889, 893, 913, 870, 967, 963, 959, 983, 905, 952, 979, 991, 882, 901] : List Nat).filterMap (fun i => lw_tbl[i]?) := by decide +kernel
theorem j_fM7_g : (j_mt7).all (fun t => (j_wM t).all goodWord) = true := by decide +kernel
theorem j_fM7_i : ∀ t ∈ j_mt7, ∀ w ∈ j_wM t, w ∈ j_gws := j_fam j_fM7_p j_fM7_g
theorem j_fM8_p : (j_mt8).flatMap j_wM = ([928, 917, 940, 932, 948, 975, 987, 995, 1003, 999, 1011, 1007, 1015, 1027, 1023, 1019] : List Nat).filterMap (fun i => lw_tbl[i]?) := by decide +kernel
theorem j_fM8_g : (j_mt8).all (fun t => (j_wM t).all goodWord) = true := by decide +kernel
theorem j_fM8_i : ∀ t ∈ j_mt8, ∀ w ∈ j_wM t, w ∈ j_gws := j_fam j_fM8_p j_fM8_g
theorem j_fM9_p : (j_mt9).flatMap j_wM = ([1031, 1035, 1055, 1051, 1047, 1043, 1039, 1063, 1059, 1067, 1071, 1075, 1079, 1083, 1099, 1107] : List Nat).filterMap (fun i => lw_tbl[i]?) := by decide +kernel
theorem j_fM9_g : (j_mt9).all (fun t => (j_wM t).all goodWord) = true := by decide +kernel
theorem j_fM9_i : ∀ t ∈ j_mt9, ∀ w ∈ j_wM t, w ∈ j_gws := j_fam j_fM9_p j_fM9_g
theorem j_fM10_p : (j_mt10).flatMap j_wM = ([1111, 1103, 1118, 1115, 1095, 1091, 1122, 1087, 1131, 1126, 296, 659, 669, 694, 707, 715] : List Nat).filterMap (fun i => lw_tbl[i]?) := by decide +kernel
theorem j_fM10_g : (j_mt10).all (fun t => (j_wM t).all goodWord) = true := by decide +kernel
theorem j_fM10_i : ∀ t ∈ j_mt10, ∀ w ∈ j_wM t, w ∈ j_gws := j_fam j_fM10_p j_fM10_g
def j_mtL11 : List jMe := j_mt11.dropLast
theorem j_fM11_p : (j_mtL11).flatMap j_wM = ([723, 730, 742, 746, 750, 754, 758, 762, 769, 773, 781, 798] : List Nat).filterMap (fun i => lw_tbl[i]?) := by decide +kernel
theorem j_fM11_g : (j_mtL11).all (fun t => (j_wM t).all goodWord) = true := by decide +kernel
theorem j_fM11_i : ∀ t ∈ j_mtL11, ∀ w ∈ j_wM t, w ∈ j_gws := j_fam j_fM11_p j_fM11_g
theorem j_fI_p : ((List.range 9)).flatMap (fun k => [Cond.initialized (j_cn k)]) = ([60, 61, 59, 62, 58, 63, 71, 72, 57] : List Nat).filterMap (fun i => lw_tbl[i]?) := by decide +kernel
theorem j_fI_g : ((List.range 9)).all (fun t => ((fun k => [Cond.initialized (j_cn k)]) t).all goodWord) = true := by decide +kernel
theorem j_fI_i : ∀ t ∈ (List.range 9), ∀ w ∈ (fun k => [Cond.initialized (j_cn k)]) t, w ∈ j_gws := j_fam j_fI_p j_fI_g
theorem j_fC0_p : (j_clT0).flatMap j_wC = ([92, 79, 80, 260, 262, 261, 68, 432, 350, 351, 284, 285, 426, 280, 281, 282, 294, 295, 317, 277, 278, 318, 319, 320, 322, 323, 72, 324, 325, 326, 72, 327, 328, 329, 331, 332, 334, 335, 129, 79, 80, 267, 262, 261, 68, 86, 79, 80, 90, 127, 164, 165, 166, 168, 169, 170, 172, 173, 174, 256, 257, 258, 263, 264, 265, 446, 448, 10, 454, 319, 320, 450, 451, 452, 276, 277, 278, 463, 464, 465, 467, 468, 469, 272, 274, 1, 290, 291, 292, 287, 288, 199, 79, 80, 369, 370, 371, 373, 374, 375, 377, 378, 379, 381, 383, 2, 385, 387, 3, 389, 391, 4] : List Nat).filterMap (fun i => lw_tbl[i]?) := by decide +kernel
theorem j_fC0_g : (j_clT0).all (fun t => (j_wC t).all goodWord) = true := by decide +kernel
theorem j_fC0_i : ∀ t ∈ j_clT0, ∀ w ∈ j_wC t, w ∈ j_gws := j_fam j_fC0_p j_fC0_g
theorem j_fC1_p : (j_clT1).flatMap j_wC = ([397, 399, 6, 404, 406, 7, 393, 395, 5, 401, 402, 78, 79, 80, 83, 84, 197, 248, 250, 0, 349, 350, 351, 666, 165, 166, 419, 420, 428, 429, 430, 433, 434, 435, 571, 573, 14, 701, 702, 703, 268, 269, 270, 622, 623, 438, 439, 440, 442, 443, 444, 459, 460, 461, 471, 472, 473, 736, 737, 738, 592, 593, 594, 596, 597, 598, 600, 601, 602, 604, 605, 606, 608, 281, 282, 609, 610, 611, 626, 627, 628, 635, 636, 488, 489, 490, 492, 493, 494, 647, 648, 649, 656, 468, 469, 312, 262, 261, 68, 313, 314, 315, 304, 305, 306, 308, 309, 310, 337, 338, 339, 778, 323, 72, 324] : List Nat).filterMap (fun i => lw_tbl[i]?) := by decide +kernel
theorem j_fC1_g : (j_clT1).all (fun t => (j_wC t).all goodWord) = true := by decide +kernel
theorem j_fC1_i : ∀ t ∈ j_clT1, ∀ w ∈ j_wC t, w ∈ j_gws := j_fam j_fC1_p j_fC1_g
theorem j_fC2_p : (j_clT2).flatMap j_wC = ([787, 788, 789, 792, 793, 794, 357, 358, 359, 365, 366, 367, 408, 370, 371, 409, 374, 375, 410, 378, 379, 411, 413, 8, 252, 253, 254, 480, 481, 484, 485, 486, 563, 565, 13, 614, 616, 15, 639, 641, 16, 567, 568, 569, 618, 619, 620, 631, 632, 633, 643, 644, 645, 651, 301, 302, 652, 653, 654, 422, 423, 425, 426, 575, 451, 452, 415, 417, 9, 455, 457, 11, 809, 79, 80, 810, 812, 17, 883, 884, 922, 924, 27, 871, 873, 18, 890, 892, 21, 875, 877, 19, 941, 943, 30, 933, 935, 28, 960, 962, 33, 894, 896, 22, 906, 908, 24, 953, 954, 956, 958, 32, 964, 966, 34] : List Nat).filterMap (fun i => lw_tbl[i]?) := by decide +kernel
theorem j_fC2_g : (j_clT2).all (fun t => (j_wC t).all goodWord) = true := by decide +kernel
theorem j_fC2_i : ∀ t ∈ j_clT2, ∀ w ∈ j_wC t, w ∈ j_gws := j_fam j_fC2_p j_fC2_g
theorem j_fC3_p : (j_clT3).flatMap j_wC = ([968, 970, 35, 980, 982, 37, 886, 888, 20, 902, 904, 23, 910, 912, 25, 918, 920, 26, 926, 927, 937, 939, 29, 949, 951, 31, 976, 978, 36, 988, 990, 38, 1000, 1002, 39, 1008, 1010, 40, 1024, 1026, 42, 1020, 1022, 41, 1044, 1046, 44, 1048, 1050, 45, 1052, 1054, 46, 1040, 1042, 43, 1060, 1062, 47, 1096, 1098, 50, 1104, 1106, 52, 1116, 1117, 1100, 1102, 51, 1108, 1110, 53, 1112, 1114, 54, 1092, 1094, 49, 1088, 1090, 48, 1119, 1121, 55, 1128, 1130, 56, 661, 662, 663, 671, 672, 673, 696, 697, 698, 708, 709, 710, 716, 717, 718, 724, 725, 726, 731, 732, 733, 743, 568, 569, 747, 619, 620, 751, 632, 633] : List Nat).filterMap (fun i => lw_tbl[i]?) := by decide +kernel
theorem j_fC3_g : (j_clT3).all (fun t => (j_wC t).all goodWord) = true := by decide +kernel
theorem j_fC3_i : ∀ t ∈ j_clT3, ∀ w ∈ j_wC t, w ∈ j_gws := j_fam j_fC3_p j_fC3_g
theorem j_fC4_p : (j_clT4).flatMap j_wC = ([755, 485, 486, 759, 644, 645, 763, 764, 765, 770, 653, 654, 774, 775, 776, 782, 783, 784, 799, 800, 801, 75, 76, 806, 807, 657, 658, 879, 880, 881, 863, 864, 865, 667, 668, 898, 899, 900, 692, 693, 914, 915, 916, 244, 245, 246, 929, 930, 931, 705, 706, 945, 946, 947, 713, 714, 972, 973, 974, 721, 722, 984, 985, 986, 728, 729, 992, 993, 994, 740, 741, 996, 997, 998, 744, 745, 1004, 1005, 1006, 748, 749, 1012, 1013, 1014, 752, 753, 1016, 1017, 1018, 756, 757, 1028, 1029, 1030, 760, 761, 1032, 1033, 1034, 767, 768, 1036, 1037, 1038] : List Nat).filterMap (fun i => lw_tbl[i]?) := by decide +kernel
theorem j_fC4_g : (j_clT4).all (fun t => (j_wC t).all goodWord) = true := by decide +kernel
theorem j_fC4_i : ∀ t ∈ j_clT4, ∀ w ∈ j_wC t, w ∈ j_gws := j_fam j_fC4_p j_fC4_g
theorem j_fC5_p : (j_clT5).flatMap j_wC = ([300, 301, 302, 1056, 1057, 1058, 771, 772, 1064, 1065, 1066, 341, 342, 343, 1068, 1069, 1070, 345, 346, 347, 1072, 1073, 1074, 779, 780, 1076, 1077, 1078, 353, 354, 355, 1080, 1081, 1082, 361, 362, 363, 1084, 1085, 1086, 796, 797, 867, 868, 869, 475, 476, 477, 1123, 1124, 1125] : List Nat).filterMap (fun i => lw_tbl[i]?) := by decide +kernel
theorem j_fC5_g : (j_clT5).all (fun t => (j_wC t).all goodWord) = true := by decide +kernel
theorem j_fC5_i : ∀ t ∈ j_clT5, ∀ w ∈ j_wC t, w ∈ j_gws := j_fam j_fC5_p j_fC5_g
theorem j_fK_p : (j_klT).flatMap j_wK = ([87, 124, 81, 194, 496, 676, 576, 73, 660, 670, 695, 804] : List Nat).filterMap (fun i => lw_tbl[i]?) := by decide +kernel
theorem j_fK_g : (j_klT).all (fun t => (j_wK t).all goodWord) = true := by decide +kernel
theorem j_fK_i : ∀ t ∈ j_klT, ∀ w ∈ j_wK t, w ∈ j_gws := j_fam j_fK_p j_fK_g
theorem j_fO_p : (j_olT).flatMap j_wO = ([87, 88, 60, 124, 125, 61, 81, 82, 59, 194, 195, 62, 73, 74, 58, 804, 805, 63] : List Nat).filterMap (fun i => lw_tbl[i]?) := by decide +kernel
theorem j_fO_g : (j_olT).all (fun t => (j_wO t).all goodWord) = true := by decide +kernel
theorem j_fO_i : ∀ t ∈ j_olT, ∀ w ∈ j_wO t, w ∈ j_gws := j_fam j_fO_p j_fO_g
theorem j_fT_p : (j_tlT).flatMap j_wT = ([496, 67, 676, 69, 576, 70] : List Nat).filterMap (fun i => lw_tbl[i]?) := by decide +kernel
theorem j_fT_g : (j_tlT).all (fun t => (j_wT t).all goodWord) = true := by decide +kernel
theorem j_fT_i : ∀ t ∈ j_tlT, ∀ w ∈ j_wT t, w ∈ j_gws := j_fam j_fT_p j_fT_g
theorem j_fKI_p : (j_kiT).flatMap (fun t => [Cond.constant (j_cn t.1) t.2.1 t.2.2]) = ([297, 298, 299] : List Nat).filterMap (fun i => lw_tbl[i]?) := by decide +kernel
theorem j_fKI_g : (j_kiT).all (fun t => ((fun t => [Cond.constant (j_cn t.1) t.2.1 t.2.2]) t).all goodWord) = true := by decide +kernel
theorem j_fKI_i : ∀ t ∈ j_kiT, ∀ w ∈ (fun t => [Cond.constant (j_cn t.1) t.2.1 t.2.2]) t, w ∈ j_gws := j_fam j_fKI_p j_fKI_g
theorem j_fKJ_p : (j_kjT).flatMap (fun t => [Cond.constantLong (j_cn t.1) t.2.1 t.2.2]) = ([479, 483, 1127, 1132] : List Nat).filterMap (fun i => lw_tbl[i]?) := by decide +kernel
theorem j_fKJ_g : (j_kjT).all (fun t => ((fun t => [Cond.constantLong (j_cn t.1) t.2.1 t.2.2]) t).all goodWord) = true := by decide +kernel
theorem j_fKJ_i : ∀ t ∈ j_kjT, ∀ w ∈ (fun t => [Cond.constantLong (j_cn t.1) t.2.1 t.2.2]) t, w ∈ j_gws := j_fam j_fKJ_p j_fKJ_g
theorem j_fA_p : (([.int, .byte, .long] : List FieldType)).flatMap (fun t => [Cond.arrayClass t]) = ([123, 227, 1133] : List Nat).filterMap (fun i => lw_tbl[i]?) := by decide +kernel
theorem j_fA_g : (([.int, .byte, .long] : List FieldType)).all (fun t => ((fun t => [Cond.arrayClass t]) t).all goodWord) = true := by decide +kernel
theorem j_fA_i : ∀ t ∈ ([.int, .byte, .long] : List FieldType), ∀ w ∈ (fun t => [Cond.arrayClass t]) t, w ∈ j_gws := j_fam j_fA_p j_fA_g
theorem j_fS_p : j_srT.map (fun t => Cond.stringRef (j_cn t.1) t.2.1 t.2.2) = ([665, 675, 685, 700, 712, 720, 735, 613, 630, 537, 786, 791, 803, 638, 625, 585] : List Nat).filterMap (fun i => lw_tbl[i]?) := by decide +kernel
theorem j_fN_p : j_nsT.map (fun t => Cond.methodLinkNest (j_cn t.1) t.2.1 t.2.2 "ShipJournal") = ([89, 126, 196, 437] : List Nat).filterMap (fun i => lw_tbl[i]?) := by decide +kernel
def j_pn (y : MethodName) : Bool := plainName y.cls && (y.cls != "java/lang/invoke/MethodHandle" && y.cls != "java/lang/invoke/VarHandle")
def j_np (y : MethodName) : Option Nat := (parseMethodDescriptor y.desc).map (fun d => d.parameters.length)
def j_okM (me : jMe) : Bool := decide (me.2.2.2.1 ≤ 9) && j_pn me.2.1 && decide (me.1 < 9) && decide (j_cn me.1 = me.2.1.cls)
def j_okC (t : Nat × Nat × Nat × Nat) : Bool := match t.2.2.1, j_mt[t.2.2.2]? with
  | 0, some me => decide (me.2.2.2.2.2.1 ≠ 0) && decide (j_np me.2.1 = some (me.2.2.2.2.2.1 - 1)) && me.2.2.2.2.2.2.isEmpty
  | 1, some me => decide (j_np me.2.1 = some me.2.2.2.2.2.1) && me.2.2.2.2.2.2.isEmpty
  | 2, some me => decide (j_np me.2.1 = some me.2.2.2.2.2.1) && !me.2.2.2.2.2.2.isEmpty
  | 3, some me => (me.2.1.name == "<init>") && decide (me.2.2.2.2.2.1 ≠ 0) && decide (j_np me.2.1 = some (me.2.2.2.2.2.1 - 1)) && me.2.2.2.2.2.2.isEmpty && (me.2.2.2.2.1 == none)
  | 4, some me => decide ((t.1, t.2.1, me.2.1) ∈ j_nsT) && (me.2.1.name == "<init>") && decide (me.2.2.2.2.2.1 ≠ 0) && decide (j_np me.2.1 = some (me.2.2.2.2.2.1 - 1)) && me.2.2.2.2.2.2.isEmpty && (me.2.2.2.2.1 == none)
  | 5, some me => decide ((t.1, t.2.1, me.2.1) ∈ j_nsT) && decide (j_np me.2.1 = some me.2.2.2.2.2.1) && me.2.2.2.2.2.2.isEmpty
  | 6, some _ => true
  | 7, some _ => true
  | 8, some _ => true
  | 9, some _ => true
  | _, _ => false
def j_exN : List String := ["java/lang/RuntimeException", "java/lang/Exception"]
theorem j_okF_all : j_flT.all (fun t => decide (t.2.2.1 < 6) && decide (t.2.2.2 < j_nf t.2.2.1)) = true := by decide +kernel
theorem j_okM_all : j_mt.all j_okM = true := by decide +kernel
theorem j_okC_all : j_clT.all j_okC = true := by decide +kernel
theorem j_okO_all : j_olT.all (fun t => decide (t.2.2 < 6)) = true := by decide +kernel
theorem j_okT_all : j_tlT.all (fun t => Bundle.fit t.2.2.1) = true := by decide +kernel
