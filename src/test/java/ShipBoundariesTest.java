/** Promises 6 to 9, and the orders as the Terms tell them: one case for each sentence that names a boundary. */
public final class ShipBoundariesTest {
    private static final Class<?> ARGUMENT = IllegalArgumentException.class;
    private static final Class<?> STATE = IllegalStateException.class;
    private static final Class<?> INDEX = IndexOutOfBoundsException.class;

    public static void main(String[] args) {
        Cases.runAll(ShipBoundariesTest.class);
    }

    /** Ship 0 starts with these tons in the holds 0 and 1, and replays one order on them. */
    private static void turns(Check c, int in0, int in1, int kind, int a, int amount, int want0, int want1) {
        ShipJournal j = Journals.withTons(in0, in1);
        String what = in0 + " and " + in1 + " tons, kind " + kind + ", a " + a + ", amount " + amount;
        j.write(kind, a, 1 - a, amount);
        c.same(what, 1, () -> j.replay(0, 1));
        Journals.holdsAre(c, what, j, 0, want0, want1, 0, 0, 0, 0, 0, 0);
        int end = j.value(2);
        c.same(what + ", foretold for hold 0", want0, () -> j.tonsAt(end, 0));
        c.same(what + ", foretold for hold 1", want1, () -> j.tonsAt(end, 1));
    }

    // ---- the kinds of orders

    static void loadGrowsToAtMost999(Check c) {
        turns(c, 0, 5, 0, 0, 1, 1, 5);
        turns(c, 0, 5, 0, 0, 99, 99, 5);
        turns(c, 899, 0, 0, 0, 99, 998, 0);
        turns(c, 900, 0, 0, 0, 99, 999, 0);
        turns(c, 901, 0, 0, 0, 99, 999, 0);
        turns(c, 998, 0, 0, 0, 1, 999, 0);
        turns(c, 998, 0, 0, 0, 2, 999, 0);
        turns(c, 999, 0, 0, 0, 1, 999, 0);
        turns(c, 999, 999, 0, 1, 99, 999, 999);
    }

    static void unloadFallsToAtLeastZero(Check c) {
        turns(c, 0, 5, 1, 0, 1, 0, 5);
        turns(c, 1, 0, 1, 0, 1, 0, 0);
        turns(c, 1, 0, 1, 0, 2, 0, 0);
        turns(c, 2, 0, 1, 0, 1, 1, 0);
        turns(c, 98, 0, 1, 0, 99, 0, 0);
        turns(c, 99, 0, 1, 0, 99, 0, 0);
        turns(c, 100, 0, 1, 0, 99, 1, 0);
        turns(c, 999, 999, 1, 1, 99, 999, 900);
    }

    static void moveTakesAtMostItsAmount(Check c) {
        turns(c, 50, 10, 2, 0, 49, 1, 59);
        turns(c, 50, 10, 2, 0, 50, 0, 60);
        turns(c, 999, 0, 2, 0, 99, 900, 99);
        turns(c, 10, 50, 2, 1, 1, 11, 49);
    }

    static void moveTakesAtMostWhatIsThere(Check c) {
        turns(c, 50, 10, 2, 0, 51, 0, 60);
        turns(c, 50, 10, 2, 0, 99, 0, 60);
        turns(c, 1, 0, 2, 0, 2, 0, 1);
        turns(c, 0, 10, 2, 0, 1, 0, 10);
        turns(c, 10, 0, 2, 1, 99, 10, 0);
    }

    static void moveTakesAtMostWhatThereIsRoomFor(Check c) {
        turns(c, 50, 950, 2, 0, 48, 2, 998);
        turns(c, 50, 950, 2, 0, 49, 1, 999);
        turns(c, 50, 950, 2, 0, 50, 1, 999);
        turns(c, 50, 949, 2, 0, 50, 0, 999);
        turns(c, 50, 998, 2, 0, 99, 49, 999);
        turns(c, 50, 999, 2, 0, 1, 50, 999);
        turns(c, 999, 999, 2, 1, 99, 999, 999);
    }

    static void swapExchangesWhateverTheAmount(Check c) {
        turns(c, 0, 999, 3, 0, 1, 999, 0);
        turns(c, 999, 0, 3, 1, 99, 0, 999);
        turns(c, 7, 7, 3, 0, 1, 7, 7);
        turns(c, 0, 0, 3, 0, 50, 0, 0);
    }

    static void levelLeavesTheOddTonInA(Check c) {
        turns(c, 0, 0, 4, 0, 1, 0, 0);
        turns(c, 0, 1, 4, 0, 1, 1, 0);
        turns(c, 1, 0, 4, 0, 1, 1, 0);
        turns(c, 0, 1, 4, 1, 1, 0, 1);
        turns(c, 1, 0, 4, 1, 1, 0, 1);
        turns(c, 1, 1, 4, 0, 99, 1, 1);
        turns(c, 2, 0, 4, 0, 99, 1, 1);
        turns(c, 999, 998, 4, 1, 1, 998, 999);
        turns(c, 998, 999, 4, 0, 1, 999, 998);
        turns(c, 999, 999, 4, 0, 1, 999, 999);
        turns(c, 999, 0, 4, 0, 99, 500, 499);
    }

    static void ordersReachTheHoldsZeroAndSeven(Check c) {
        ShipJournal j = new ShipJournal();
        j.write(0, 7, 0, 99);
        j.write(0, 0, 7, 10);
        j.write(2, 7, 0, 9);
        j.replay(1, 3);
        Journals.holdsAre(c, "moved", j, 1, 19, 0, 0, 0, 0, 0, 0, 90);
        j.write(3, 0, 7, 1);
        j.replay(1, 1);
        Journals.holdsAre(c, "swapped", j, 1, 90, 0, 0, 0, 0, 0, 0, 19);
        j.write(4, 7, 0, 1);
        j.replay(1, 1);
        Journals.holdsAre(c, "levelled", j, 1, 54, 0, 0, 0, 0, 0, 0, 55);
        j.write(1, 7, 7, 55);
        j.replay(1, 1);
        Journals.holdsAre(c, "unloaded", j, 1, 54, 0, 0, 0, 0, 0, 0, 0);
        Journals.holdsAre(c, "the other ship", j, 0, 0, 0, 0, 0, 0, 0, 0, 0);
    }

    /** Each kind with each hold a and each hold b: the other holds keep their tons. */
    static void ordersReachTheirOwnHoldsAlone(Check c) {
        for (int kind = 0; kind <= 4; kind++) {
            for (int a = 0; a < 8; a++) {
                for (int b = 0; b < 8; b++) {
                    if (kind < 2 || a != b) {
                        reachesItsOwnHoldsAlone(c, kind, a, b);
                    }
                }
            }
        }
    }

    /** The holds start with 11, 22, .. 88 tons, so that each sum of two tells its holds. */
    private static void reachesItsOwnHoldsAlone(Check c, int kind, int a, int b) {
        int[] tons = new int[8];
        ShipJournal j = Journals.ofPlaces(9);
        for (int hold = 0; hold < 8; hold++) {
            tons[hold] = 11 * (hold + 1);
            j.write(0, hold, 0, tons[hold]);
        }
        j.write(kind, a, b, 5);
        int both = tons[a] + tons[b];
        int[] becomesA = {tons[a] + 5, tons[a] - 5, tons[a] - 5, tons[b], both - both / 2};
        int[] becomesB = {tons[b], tons[b], tons[b] + 5, tons[a], both / 2};
        tons[b] = becomesB[kind];
        tons[a] = becomesA[kind];
        String what = "kind " + kind + ", a " + a + ", b " + b;
        c.same(what, 9, () -> j.replay(1, 9));
        Journals.holdsAre(c, what, j, 1, tons);
    }

    // ---- 6: replay

    static void replayTakesTheShipsZeroAndOne(Check c) {
        ShipJournal j = Journals.withLoads(2);
        c.same("ship 0", 2, () -> j.replay(0, 2));
        c.same("ship 1", 1, () -> j.replay(1, 1));
        for (int ship : Journals.NO_SHIPS) {
            c.refuses(j, "ship " + ship, INDEX, () -> j.replay(ship, 1));
        }
    }

    static void replayTakesOneToNinetyNineOrders(Check c) {
        ShipJournal j = Journals.withLoads(4);
        c.same("1 order", 1, () -> j.replay(0, 1));
        c.same("99 orders", 3, () -> j.replay(0, 99));
        for (int orders : new int[] {0, 100, -1, -99, Integer.MIN_VALUE, Integer.MAX_VALUE}) {
            c.refuses(j, orders + " orders", ARGUMENT, () -> j.replay(1, orders));
        }
    }

    static void replayTellsTheWrongShipBeforeTheWrongNumber(Check c) {
        ShipJournal j = Journals.withLoads(4);
        for (int orders : new int[] {0, 100}) {
            c.refuses(j, "replay(2, " + orders + ")", INDEX, () -> j.replay(2, orders));
            c.refuses(j, "replay(-1, " + orders + ")", INDEX, () -> j.replay(-1, orders));
        }
    }

    static void replayOfNothingSavesAStateAllTheSame(Check c) {
        ShipJournal j = new ShipJournal();
        c.savesOne(j, "nothing is written", 0, 0, () -> j.replay(0, 99));
        j.write(0, 0, 0, 5);
        j.replay(1, 1);
        c.savesOne(j, "at the newer end", 2, 0, () -> j.replay(1, 1));
        Journals.shipIs(c, "still", j, 1, 1, 0, 1, 5, 1, 0);
    }

    static void replayStopsAtItsNumberOrAtTheNewerEnd(Check c) {
        ShipJournal j = Journals.withLoads(6);
        c.same("fewer than there are", 5, () -> j.replay(0, 5));
        c.same("as many as there are", 6, () -> j.replay(1, 6));
        c.same("one is left", 1, () -> j.replay(0, 2));
        c.same("none is left", 0, () -> j.replay(0, 1));
        c.same("none is left", 0, () -> j.replay(1, 1));
    }

    static void replayReadsAnOrderThatHasOneSoundCopy(Check c) {
        ShipJournal j = Journals.withLoads(2);
        j.spoil(0, 0);
        j.spoil(1, 1);
        c.same("both orders", 2, () -> j.replay(0, 99));
        c.same("tons", 3, () -> j.hold(0, 0));
    }

    static void replayStopsBeforeAnOrderThatCannotBeRead(Check c) {
        ShipJournal j = Journals.withLoads(4);
        Journals.spoilBoth(j, 2);
        c.same("up to it", 2, () -> j.replay(0, 99));
        c.same("its position", 2, () -> j.ship(0, 0));
        c.same("no further", 0, () -> j.replay(0, 1));
        ShipJournal k = Journals.withLoads(1);
        Journals.spoilBoth(k, 0);
        c.savesOne(k, "at the very first one", 3, 0, () -> k.replay(1, 99));
    }

    static void replayNeedsItsOwnLink(Check c) {
        for (int ship = 0; ship < 2; ship++) {
            int s = ship;
            ShipJournal j = Journals.withLoads(2);
            j.link(s, false);
            c.savesOne(j, "ship " + s + " without its link", 3, 0, () -> j.replay(s, 99));
            c.same("its position", 0, () -> j.ship(s, 0));
            c.same("the other ship", 2, () -> j.replay(1 - s, 99));
        }
    }

    /** Order 2 with each set of spoiled copies, each set of links that are up, each position of both ships. */
    static void replayGoesByCopiesLinksAndPositions(Check c) {
        for (int copies = 0; copies < 4; copies++) {
            for (int links = 0; links < 4; links++) {
                for (int p0 = 0; p0 <= 4; p0++) {
                    for (int p1 = 0; p1 <= 4; p1++) {
                        replaysAsFarAs(c, 0, copies, links, new int[] {p0, p1});
                        replaysAsFarAs(c, 1, copies, links, new int[] {p0, p1});
                    }
                }
            }
        }
    }

    private static void replaysAsFarAs(Check c, int ship, int copies, int links, int[] positions) {
        ShipJournal j = Journals.withShips(0, positions[0], 0, positions[1]);
        Journals.spoilSet(j, 2, copies);
        Journals.keepLinks(j, links);
        int stop = copies == 3 && positions[ship] <= 2 ? 2 : 4;
        int count = (links >> ship & 1) == 1 ? stop - positions[ship] : 0;
        int position = positions[ship] + count;
        String what = "ship " + ship + ", copies " + copies + ", links " + links
                + ", positions " + positions[0] + " and " + positions[1];
        c.same(what + ", stop", stop, () -> j.stop(ship));
        c.same(what + ", ahead", count, () -> j.ahead(ship));
        c.same(what + ", replay", count, () -> j.replay(ship, 99));
        Journals.shipIs(c, what, j, ship, position, 0, links >> ship & 1, Journals.tonsBehind(position),
                Journals.replayedUpTo(0, positions[ship]) + count, Journals.crashesUpTo(0, positions[ship]));
        c.same(what + ", the other one", positions[1 - ship], () -> j.ship(1 - ship, 0));
    }

    static void replayOfAWholeRing(Check c) {
        ShipJournal j = Journals.full(32);
        c.same("32 orders", 32, () -> j.replay(0, 99));
        Journals.shipIs(c, "replayed", j, 0, 32, 0, 1, 320, 32, 0);
    }

    static void replayCountsAgainBehindACrash(Check c) {
        ShipJournal j = Journals.withLoads(3);
        j.replay(0, 3);
        j.crash(0);
        c.same("again", 3, () -> j.replay(0, 3));
        Journals.shipIs(c, "again", j, 0, 3, 0, 1, 6, 6, 1);
    }

    // ---- 7: snapshot

    static void snapshotTakesTheShipsZeroAndOne(Check c) {
        ShipJournal j = Journals.withLoads(2);
        c.same("ship 0", 0, () -> j.snapshot(0));
        c.same("ship 1", 0, () -> j.snapshot(1));
        for (int ship : Journals.NO_SHIPS) {
            c.refuses(j, "ship " + ship, INDEX, () -> j.snapshot(ship));
        }
        j.link(0, false);
        j.link(1, false);
        for (int ship : Journals.NO_SHIPS) {
            c.refuses(j, "ship " + ship + ", all links lost", INDEX, () -> j.snapshot(ship));
        }
    }

    static void snapshotNeedsItsOwnLink(Check c) {
        for (int ship = 0; ship < 2; ship++) {
            int s = ship;
            ShipJournal j = Journals.withLoads(3);
            j.replay(s, 3);
            j.link(s, false);
            c.refuses(j, "ship " + s + " without its link", STATE, () -> j.snapshot(s));
            c.same("the other ship", 0, () -> j.snapshot(1 - s));
        }
    }

    static void snapshotAtTheStartChangesNothingAndSavesAState(Check c) {
        ShipJournal j = new ShipJournal();
        c.savesOne(j, "of an empty ring", 0, 0, () -> j.snapshot(0));
        j.write(0, 0, 0, 1);
        c.savesOne(j, "of a ship at position 0", 1, 0, () -> j.snapshot(1));
    }

    static void snapshotFreesNothingWhereTheOtherOneHoldsTheOlderEnd(Check c) {
        for (int ship = 0; ship < 2; ship++) {
            int s = ship;
            ShipJournal j = Journals.withLoads(6);
            j.replay(s, 6);
            c.same("ship " + s, 0, () -> j.snapshot(s));
            Journals.valuesAre(c, "held by the other one", j, 8, 0, 6, 6);
            c.same("its snapshot", 6, () -> j.ship(s, 1));
        }
    }

    static void snapshotFreesUpToTheLesserOne(Check c) {
        for (int behind = 3; behind <= 5; behind++) {
            int end = Math.min(behind, 4);
            ShipJournal j = Journals.withLoads(6);
            j.replay(0, 4);
            j.snapshot(0);
            j.replay(1, behind);
            c.same("ship 1 at " + behind + ", ship 0 at 4", end, () -> j.snapshot(1));
            Journals.valuesAre(c, "ship 1 at " + behind, j, 8, end, 6, 6 - end);
            c.refuses(j, "before the older end", INDEX, () -> j.order(end - 1, 0));
            c.same("at the older end", end + 1, () -> j.order(end, 3));
        }
    }

    static void snapshotCountsTheOtherSnapshotNotTheOtherPosition(Check c) {
        ShipJournal j = Journals.withLoads(6);
        j.replay(0, 5);
        j.replay(1, 5);
        c.same("ship 1 has none yet", 0, () -> j.snapshot(0));
        c.same("both have one", 5, () -> j.snapshot(1));
    }

    /** Each snapshot and each position up to four, of both ships: what a snapshot frees, how far a crash falls. */
    static void snapshotAndCrashGoByTheirOwnPositions(Check c) {
        for (int s0 = 0; s0 <= 4; s0++) {
            for (int p0 = s0; p0 <= 4; p0++) {
                for (int s1 = 0; s1 <= 4; s1++) {
                    for (int p1 = s1; p1 <= 4; p1++) {
                        oneShipsPositions(c, 0, new int[] {s0, s1}, new int[] {p0, p1});
                        oneShipsPositions(c, 1, new int[] {s0, s1}, new int[] {p0, p1});
                    }
                }
            }
        }
    }

    private static void oneShipsPositions(Check c, int ship, int[] snapshots, int[] positions) {
        ShipJournal j = Journals.withShips(snapshots[0], positions[0], snapshots[1], positions[1]);
        String what = "ship " + ship + ", snapshots " + snapshots[0] + " and " + snapshots[1]
                + ", positions " + positions[0] + " and " + positions[1];
        int olderEnd = Math.min(snapshots[0], snapshots[1]);
        int freed = Math.min(positions[ship], snapshots[1 - ship]) - olderEnd;
        c.same(what + ", snapshot", freed, () -> j.snapshot(ship));
        c.same(what + ", older end", olderEnd + freed, () -> j.value(1));
        c.same(what + ", position of the snapshot", positions[ship], () -> j.ship(ship, 1));
        c.same(what + ", that of the other one", snapshots[1 - ship], () -> j.ship(1 - ship, 1));
        j.undo();
        c.same(what + ", crash", positions[ship] - snapshots[ship], () -> j.crash(ship));
        c.same(what + ", older end behind a crash", olderEnd, () -> j.value(1));
        c.same(what + ", tons", Journals.tonsBehind(snapshots[ship]), () -> j.hold(ship, 0));
        c.same(what + ", tons of the other one", Journals.tonsBehind(positions[1 - ship]), () -> j.hold(1 - ship, 0));
    }

    static void snapshotAgainFreesNothing(Check c) {
        ShipJournal j = Journals.withLoads(6);
        j.replay(0, 2);
        j.snapshot(0);
        j.replay(1, 2);
        c.same("it frees", 2, () -> j.snapshot(1));
        c.same("again", 0, () -> j.snapshot(1));
        c.same("the other one again", 0, () -> j.snapshot(0));
    }

    static void snapshotFreesAWholeRing(Check c) {
        ShipJournal j = Journals.full(32);
        j.replay(0, 99);
        j.replay(1, 99);
        j.snapshot(1);
        c.same("32 orders", 32, () -> j.snapshot(0));
        Journals.valuesAre(c, "all freed", j, 32, 32, 32, 0, 0, 0, 0);
        c.same("room again", 32, () -> j.write(0, 0, 0, 1));
    }

    static void snapshotIsTakenAnew(Check c) {
        ShipJournal j = Journals.withLoads(4);
        j.replay(0, 1);
        j.snapshot(0);
        j.replay(0, 1);
        j.snapshot(0);
        j.replay(0, 2);
        c.same("a crash falls to the later one", 2, () -> j.crash(0));
        c.same("its holds", 3, () -> j.hold(0, 0));
        j.undo();
        j.undo();
        j.undo();
        c.same("behind undo a crash falls to the earlier one", 1, () -> j.crash(0));
        c.same("its holds", 1, () -> j.hold(0, 0));
    }

    static void snapshotIsUndoable(Check c) {
        ShipJournal j = new ShipJournal();
        j.write(0, 0, 0, 1);
        j.replay(0, 1);
        c.savesOne(j, "that frees nothing", 2, 0, () -> j.snapshot(0));
        ShipJournal k = Journals.withLoads(2);
        Journals.free(k, 1);
        k.replay(1, 1);
        k.snapshot(1);
        k.replay(0, 1);
        c.same("that frees one", 1, () -> k.snapshot(0));
        c.same("undo", 3, k::undo);
        Journals.valuesAre(c, "undone", k, 8, 1, 2, 1);
        Journals.orderIs(c, "the freed order", k, 1, 0, 0, 0, 2, 0, 3);
    }

    // ---- 8: crash

    static void crashTakesTheShipsZeroAndOne(Check c) {
        ShipJournal j = Journals.withLoads(2);
        c.same("ship 0", 0, () -> j.crash(0));
        c.same("ship 1", 0, () -> j.crash(1));
        for (int ship : Journals.NO_SHIPS) {
            c.refuses(j, "ship " + ship, INDEX, () -> j.crash(ship));
        }
    }

    static void crashThatFallsByNothingCountsAndSavesAState(Check c) {
        ShipJournal j = new ShipJournal();
        c.savesOne(j, "at position 0", 0, 0, () -> j.crash(1));
        j.crash(1);
        c.same("it counts", 1, () -> j.ship(1, 5));
        ShipJournal k = Journals.withLoads(3);
        k.replay(0, 3);
        k.snapshot(0);
        c.same("at its snapshot", 0, () -> k.crash(0));
        Journals.shipIs(c, "at its snapshot", k, 0, 3, 3, 1, 6, 3, 1);
    }

    static void crashFallsToTheBeginningWithoutASnapshot(Check c) {
        ShipJournal j = Journals.full(32);
        j.replay(0, 32);
        c.same("32 orders", 32, () -> j.crash(0));
        Journals.shipIs(c, "crashed", j, 0, 0, 0, 1, 0, 32, 1);
    }

    static void crashFallsToItsOwnSnapshot(Check c) {
        ShipJournal j = Journals.withLoads(6);
        j.replay(0, 2);
        j.snapshot(0);
        j.replay(1, 3);
        j.snapshot(1);
        j.replay(0, 4);
        j.replay(1, 2);
        c.same("ship 0", 4, () -> j.crash(0));
        c.same("its holds", 3, () -> j.hold(0, 0));
        c.same("ship 1", 2, () -> j.crash(1));
        c.same("its holds", 6, () -> j.hold(1, 0));
    }

    static void crashNeedsNoLink(Check c) {
        ShipJournal j = Journals.withLoads(2);
        j.replay(0, 2);
        j.link(0, false);
        c.same("without its link", 2, () -> j.crash(0));
        c.same("its link stays lost", 0, () -> j.ship(0, 2));
    }

    static void crashTwiceFallsOnce(Check c) {
        ShipJournal j = Journals.withLoads(2);
        j.replay(1, 2);
        c.same("once", 2, () -> j.crash(1));
        c.same("twice", 0, () -> j.crash(1));
        c.same("both count", 2, () -> j.ship(1, 5));
    }

    /** Later orders must not reach the snapshot's own row of holds. */
    static void crashLeavesTheSnapshotWhole(Check c) {
        ShipJournal j = Journals.withLoads(4);
        j.replay(0, 2);
        j.snapshot(0);
        for (int turn = 0; turn < 3; turn++) {
            j.replay(0, 2);
            c.same("falls", 2, () -> j.crash(0));
            c.same("tons", 3, () -> j.hold(0, 0));
        }
    }

    static void crashFreesNothing(Check c) {
        ShipJournal j = Journals.withLoads(8);
        Journals.free(j, 3);
        j.replay(0, 5);
        j.crash(0);
        Journals.valuesAre(c, "the ends stay", j, 8, 3, 8, 5);
    }

    static void crashIsUndoable(Check c) {
        ShipJournal j = Journals.withLoads(2);
        j.replay(1, 2);
        c.savesOne(j, "of ship 1", 3, 2, () -> j.crash(1));
        Journals.shipIs(c, "undone", j, 1, 2, 0, 1, 3, 2, 0);
    }

    // ---- 9: link

    static void linkReturnsZeroToTwo(Check c) {
        ShipJournal j = new ShipJournal();
        c.same("one is left", 1, () -> j.link(0, false));
        c.same("none is left", 0, () -> j.link(1, false));
        c.same("one is up", 1, () -> j.link(1, true));
        c.same("both are up", 2, () -> j.link(0, true));
        c.same("the other one is left", 1, () -> j.link(1, false));
        Journals.shipIs(c, "ship 0", j, 0, 0, 0, 1);
        Journals.shipIs(c, "ship 1", j, 1, 0, 0, 0);
    }

    static void linkRefusesWhatIsSoAlready(Check c) {
        for (int ship = 0; ship < 2; ship++) {
            int s = ship;
            ShipJournal j = new ShipJournal();
            c.refuses(j, "up from the start", STATE, () -> j.link(s, true));
            j.link(s, false);
            c.refuses(j, "lost already", STATE, () -> j.link(s, false));
            j.link(s, true);
            c.refuses(j, "up already", STATE, () -> j.link(s, true));
        }
    }

    static void linkTakesTheShipsZeroAndOne(Check c) {
        ShipJournal j = new ShipJournal();
        for (int ship : Journals.NO_SHIPS) {
            c.refuses(j, "ship " + ship + " up", INDEX, () -> j.link(ship, true));
            c.refuses(j, "ship " + ship + " lost", INDEX, () -> j.link(ship, false));
        }
    }

    static void linkThatIsLostLeavesTheShipWhereItIs(Check c) {
        ShipJournal j = Journals.withLoads(3);
        j.replay(0, 2);
        j.snapshot(0);
        j.replay(0, 1);
        j.link(0, false);
        Journals.shipIs(c, "lost", j, 0, 3, 2, 0, 6, 3, 0);
    }

    static void linkIsUndoable(Check c) {
        ShipJournal j = new ShipJournal();
        c.savesOne(j, "lost", 0, 1, () -> j.link(0, false));
        j.link(1, false);
        c.savesOne(j, "up", 1, 2, () -> j.link(1, true));
        c.same("lost again", 0, () -> j.ship(1, 2));
    }
}
