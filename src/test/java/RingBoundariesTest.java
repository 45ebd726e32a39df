/** Promises 1 to 5: one case for each sentence about the ring that names a boundary. */
public final class RingBoundariesTest {
    private static final Class<?> ARGUMENT = IllegalArgumentException.class;
    private static final Class<?> STATE = IllegalStateException.class;
    private static final Class<?> INDEX = IndexOutOfBoundsException.class;

    public static void main(String[] args) {
        Cases.runAll(RingBoundariesTest.class);
    }

    // ---- 1: a new object

    static void newRingIsEmptyAndHasEightPlaces(Check c) {
        Journals.valuesAre(c, "new", new ShipJournal(), 8, 0, 0, 0, 0, 0, 0);
    }

    static void newShipsStandAtTheStartWithLinksUp(Check c) {
        ShipJournal j = new ShipJournal();
        for (int ship = 0; ship < 2; ship++) {
            Journals.shipIs(c, "new", j, ship, 0, 0, 1, 0, 0, 0);
            Journals.holdsAre(c, "new", j, ship, 0, 0, 0, 0, 0, 0, 0, 0);
        }
    }

    static void newSnapshotsAreEmpty(Check c) {
        ShipJournal j = new ShipJournal();
        Journals.loads(j, 8);
        for (int s = 0; s < 2; s++) {
            int ship = s;
            j.replay(ship, 8);
            c.same("crash(" + ship + ")", 8, () -> j.crash(ship));
            Journals.holdsAre(c, "crashed", j, ship, 0, 0, 0, 0, 0, 0, 0, 0);
        }
    }

    static void newForecastsAreOfAnEmptyRing(Check c) {
        ShipJournal j = new ShipJournal();
        for (int s = 0; s < 2; s++) {
            int ship = s;
            c.same("ahead", 0, () -> j.ahead(ship));
            c.same("stop", 0, () -> j.stop(ship));
            c.same("roomBy", 8, () -> j.roomBy(ship));
        }
        for (int h = 0; h < 8; h++) {
            int hold = h;
            c.same("tonsAt", 0, () -> j.tonsAt(0, hold));
        }
        c.same("tonsAt behind the newer end", ShipJournal.NONE, () -> j.tonsAt(1, 0));
        c.same("agree", 1, j::agree);
        c.same("slower", 2, j::slower);
        c.sameDouble("fullness", 0.0, j::fullness);
    }

    static void newObjectHasNoTextAndNoSavedState(Check c) {
        ShipJournal j = new ShipJournal();
        c.refuses(j, "undo", STATE, j::undo);
        c.same("clearText", 0, j::clearText);
    }

    static void newRingTakesEightOrdersAndNoNinth(Check c) {
        ShipJournal j = new ShipJournal();
        for (int i = 0; i < 8; i++) {
            int position = i;
            c.same("order " + position, position, () -> j.write(0, 0, 0, 1));
        }
        c.refuses(j, "the ninth", STATE, () -> j.write(0, 0, 0, 1));
    }

    // ---- 2: begin

    static void beginTakesFourPlacesTheFewest(Check c) {
        ShipJournal j = new ShipJournal();
        c.same("begin(4)", 0, () -> j.begin(4));
        c.same("places", 4, () -> j.value(0));
        c.refuses(j, "begin(3)", ARGUMENT, () -> j.begin(3));
    }

    static void beginTakesThirtyTwoPlacesTheMost(Check c) {
        ShipJournal j = new ShipJournal();
        c.same("begin(32)", 0, () -> j.begin(32));
        c.same("places", 32, () -> j.value(0));
        c.refuses(j, "begin(33)", ARGUMENT, () -> j.begin(33));
    }

    static void beginRefusesPlacesFarOut(Check c) {
        ShipJournal j = Journals.withLoads(3);
        for (int places : new int[] {0, -1, -4, -32, 64, Integer.MIN_VALUE, Integer.MAX_VALUE}) {
            c.refuses(j, "begin(" + places + ")", ARGUMENT, () -> j.begin(places));
        }
    }

    static void beginOfEachSizeTakesSoManyOrdersAndNoMore(Check c) {
        for (int p = 4; p <= 32; p++) {
            int places = p;
            ShipJournal j = new ShipJournal();
            c.same("begin(" + places + ")", 0, () -> j.begin(places));
            for (int i = 0; i < places - 1; i++) {
                j.write(0, 0, 0, 1);
            }
            c.same("the last place of " + places, places - 1, () -> j.write(0, 0, 0, 1));
            c.refuses(j, "one more than " + places, STATE, () -> j.write(0, 0, 0, 1));
        }
    }

    static void beginReturnsTheOrdersThatWereKept(Check c) {
        c.same("of none", 0, () -> new ShipJournal().begin(5));
        c.same("of a full ring of 4", 4, () -> Journals.full(4).begin(32));
        c.same("of a full ring of 32", 32, () -> Journals.full(32).begin(4));
        ShipJournal j = Journals.withLoads(8);
        Journals.free(j, 5);
        c.same("freed orders are not kept", 3, () -> j.begin(8));
        ShipJournal k = Journals.withLoads(8);
        Journals.free(k, 8);
        c.same("all are freed", 0, () -> k.begin(8));
    }

    static void beginWithTheSamePlacesBeginsAnewToo(Check c) {
        ShipJournal j = Journals.withLoads(8);
        c.same("begin(8)", 8, () -> j.begin(8));
        Journals.valuesAre(c, "begin(8)", j, 8, 0, 0, 0, 0, 0, 0);
        c.same("the first order again", 0, () -> j.write(1, 0, 0, 1));
    }

    static void beginPutsBothEndsAtTheStart(Check c) {
        ShipJournal j = Journals.withLoads(8);
        Journals.free(j, 5);
        j.begin(4);
        Journals.valuesAre(c, "begun", j, 4, 0, 0, 0, 0, 0, 0);
        for (int i = 0; i < 4; i++) {
            int position = i;
            c.same("order " + position, position, () -> j.write(0, 0, 0, 1));
        }
        c.refuses(j, "a fifth one", STATE, () -> j.write(0, 0, 0, 1));
    }

    static void beginEmptiesEachHoldOfShipsAndSnapshots(Check c) {
        ShipJournal j = Journals.rich();
        j.begin(8);
        for (int s = 0; s < 2; s++) {
            int ship = s;
            Journals.holdsAre(c, "ship " + ship, j, ship, 0, 0, 0, 0, 0, 0, 0, 0);
            c.same("no fall", 0, () -> j.crash(ship));
            Journals.holdsAre(c, "snapshot of ship " + ship, j, ship, 0, 0, 0, 0, 0, 0, 0, 0);
        }
    }

    static void beginMakesTheShipsAsAtFirst(Check c) {
        ShipJournal j = Journals.withLoads(8);
        Journals.free(j, 3);
        for (int ship = 0; ship < 2; ship++) {
            j.replay(ship, 4);
            j.crash(ship);
            j.replay(ship, 2);
            j.link(ship, false);
        }
        j.begin(8);
        for (int ship = 0; ship < 2; ship++) {
            Journals.shipIs(c, "begun", j, ship, 0, 0, 1, 0, 0, 0);
            Journals.holdsAre(c, "begun", j, ship, 0, 0, 0, 0, 0, 0, 0, 0);
        }
        c.same("a crash falls to nothing", 0, () -> j.crash(0));
        Journals.holdsAre(c, "snapshot of ship 0", j, 0, 0);
        c.same("a crash falls to nothing", 0, () -> j.crash(1));
        Journals.holdsAre(c, "snapshot of ship 1", j, 1, 0);
    }

    static void beginForgetsSpoiledAndRepairedCopies(Check c) {
        ShipJournal j = Journals.withLoads(8);
        j.spoil(0, 0);
        j.repair();
        for (int position = 0; position < 8; position++) {
            Journals.spoilBoth(j, position);
        }
        j.begin(8);
        Journals.valuesAre(c, "begun", j, 8, 0, 0, 0, 0, 0, 0);
        Journals.loads(j, 8);
        Journals.valuesAre(c, "written anew", j, 8, 0, 8, 8, 0, 0, 0);
    }

    static void beginKeepsTheText(Check c) {
        ShipJournal j = new ShipJournal();
        Journals.put(j, "l3,7;r09;");
        j.begin(4);
        c.same("its commands", 2, j::carryOut);
        Journals.orderIs(c, "from the text", j, 0, 0, 3, 0, 7);
        c.same("its length", 9, j::clearText);
    }

    static void beginKeepsTheSavedStates(Check c) {
        ShipJournal j = Journals.withLoads(3);
        c.same("begin", 3, () -> j.begin(4));
        for (int left = 3; left >= 0; left--) {
            int remain = left;
            c.same("states remain", remain, j::undo);
            c.same("orders", remain, () -> j.value(2));
            c.same("places", 8, () -> j.value(0));
        }
        c.refuses(j, "no more", STATE, j::undo);
    }

    static void beginSavesAStateThoughItChangesNothing(Check c) {
        ShipJournal j = new ShipJournal();
        c.savesOne(j, "begin(8)", 0, 0, () -> j.begin(8));
    }

    // ---- 3: write

    static void writeTakesTheKindsZeroToFour(Check c) {
        ShipJournal j = new ShipJournal();
        for (int k = 0; k <= 4; k++) {
            int kind = k;
            c.same("kind " + kind, kind, () -> j.write(kind, 1, 2, 3));
            Journals.orderIs(c, "kind " + kind, j, kind, kind, 1, kind < 2 ? 0 : 2, 3, 0, 0);
        }
        for (int kind : new int[] {-1, 5, Integer.MIN_VALUE, Integer.MAX_VALUE}) {
            c.refuses(j, "kind " + kind, ARGUMENT, () -> j.write(kind, 1, 2, 3));
        }
    }

    static void writeTakesTheHoldsZeroToSevenForA(Check c) {
        for (int k = 0; k <= 4; k++) {
            int kind = k;
            ShipJournal j = new ShipJournal();
            c.same("a 0, kind " + kind, 0, () -> j.write(kind, 0, 3, 1));
            c.same("a 7, kind " + kind, 1, () -> j.write(kind, 7, 3, 1));
            c.same("the lowest a", 0, () -> j.order(0, 1));
            c.same("the highest a", 7, () -> j.order(1, 1));
            for (int a : Journals.NO_HOLDS) {
                c.refuses(j, "a " + a + ", kind " + kind, ARGUMENT, () -> j.write(kind, a, 3, 1));
            }
        }
    }

    static void writeTakesTheHoldsZeroToSevenForB(Check c) {
        for (int k = 2; k <= 4; k++) {
            int kind = k;
            ShipJournal j = new ShipJournal();
            c.same("b 0, kind " + kind, 0, () -> j.write(kind, 3, 0, 1));
            c.same("b 7, kind " + kind, 1, () -> j.write(kind, 3, 7, 1));
            c.same("the lowest b", 0, () -> j.order(0, 2));
            c.same("the highest b", 7, () -> j.order(1, 2));
            for (int b : Journals.NO_HOLDS) {
                c.refuses(j, "b " + b + ", kind " + kind, ARGUMENT, () -> j.write(kind, 3, b, 1));
            }
        }
    }

    static void writeBoundsBAlsoWhereItDoesNotMatter(Check c) {
        for (int k = 0; k <= 1; k++) {
            int kind = k;
            ShipJournal j = new ShipJournal();
            c.same("b 0, kind " + kind, 0, () -> j.write(kind, 3, 0, 1));
            c.same("b 7, kind " + kind, 1, () -> j.write(kind, 3, 7, 1));
            for (int b : Journals.NO_HOLDS) {
                c.refuses(j, "b " + b + ", kind " + kind, ARGUMENT, () -> j.write(kind, 3, b, 1));
            }
        }
    }

    static void writeKeepsZeroForTheBOfLoadsAndUnloads(Check c) {
        ShipJournal j = new ShipJournal();
        for (int kind = 0; kind <= 1; kind++) {
            for (int b : new int[] {0, 5, 7}) {
                int position = j.write(kind, 5, b, 1);
                c.same("b of kind " + kind + " given as " + b, 0, () -> j.order(position, 2));
            }
        }
    }

    static void writeTakesOneToNinetyNineTons(Check c) {
        for (int k = 0; k <= 4; k++) {
            int kind = k;
            ShipJournal j = new ShipJournal();
            c.same("1 ton, kind " + kind, 0, () -> j.write(kind, 0, 1, 1));
            c.same("99 tons, kind " + kind, 1, () -> j.write(kind, 0, 1, 99));
            c.same("the least amount", 1, () -> j.order(0, 3));
            c.same("the greatest amount", 99, () -> j.order(1, 3));
            for (int amount : new int[] {0, 100, -1, -99, Integer.MIN_VALUE, Integer.MAX_VALUE}) {
                c.refuses(j, amount + " tons, kind " + kind, ARGUMENT, () -> j.write(kind, 0, 1, amount));
            }
        }
    }

    static void writeRefusesTheSameHoldTwiceForKindsTwoToFour(Check c) {
        ShipJournal j = new ShipJournal();
        for (int kind = 2; kind <= 4; kind++) {
            for (int hold = 0; hold < 8; hold++) {
                int k = kind;
                int h = hold;
                c.refuses(j, "kind " + k + ", hold " + h, ARGUMENT, () -> j.write(k, h, h, 1));
            }
        }
    }

    static void writeTakesTheSameHoldTwiceForLoadsAndUnloads(Check c) {
        ShipJournal j = Journals.ofPlaces(16);
        for (int hold = 0; hold < 8; hold++) {
            int h = hold;
            c.same("load, hold " + h, 2 * h, () -> j.write(0, h, h, 1));
            c.same("unload, hold " + h, 2 * h + 1, () -> j.write(1, h, h, 1));
        }
    }

    static void writeRefusesAFullRing(Check c) {
        for (int places : new int[] {4, 5, 31, 32}) {
            ShipJournal j = Journals.full(places);
            c.refuses(j, "a full ring of " + places, STATE, () -> j.write(4, 7, 6, 99));
        }
    }

    static void writeTellsAWrongArgumentBeforeAFullRing(Check c) {
        ShipJournal j = Journals.full(4);
        int[][] wrong = {{5, 0, 1, 1}, {-1, 0, 1, 1}, {0, 8, 0, 1}, {0, 0, -1, 1}, {0, 0, 0, 0}, {2, 3, 3, 1}};
        for (int[] w : wrong) {
            c.refuses(j, "kind " + w[0] + ", a " + w[1] + ", b " + w[2] + ", amount " + w[3], ARGUMENT,
                    () -> j.write(w[0], w[1], w[2], w[3]));
        }
    }

    static void writeGoesOnWhenOneOrderIsFreed(Check c) {
        ShipJournal j = Journals.full(4);
        j.replay(0, 4);
        j.snapshot(0);
        c.refuses(j, "one ship alone frees nothing", STATE, () -> j.write(0, 0, 0, 1));
        j.replay(1, 1);
        c.refuses(j, "nor does a replay", STATE, () -> j.write(0, 0, 0, 1));
        j.snapshot(1);
        c.same("one place is free", 4, () -> j.write(0, 0, 0, 1));
        c.refuses(j, "and no second one", STATE, () -> j.write(0, 0, 0, 1));
    }

    /** 45 turns: as many as 512 calls of one object allow. */
    static void writeGoesAroundTheRingAtEachSize(Check c) {
        for (int places = 4; places <= 32; places++) {
            ShipJournal j = Journals.full(places);
            for (int turn = 0; turn < 45; turn++) {
                Journals.free(j, 1);
                int oldest = turn + 1;
                int newest = places + turn;
                c.same("order " + newest, newest, () -> j.write(2, newest % 8, (newest + 1) % 8, 1 + newest));
                c.refuses(j, "full at " + newest, STATE, () -> j.write(0, 0, 0, 1));
                c.same("the newest's amount", 1 + newest, () -> j.order(newest, 3));
                c.same("the oldest's amount", oldest < places ? 10 : 1 + oldest, () -> j.order(oldest, 3));
            }
        }
    }

    static void writeIntoAUsedPlaceMakesSoundCopies(Check c) {
        for (int places = 4; places <= 32; places++) {
            ShipJournal j = Journals.full(places);
            j.replay(0, places);
            j.replay(1, places);
            for (int position = 0; position < places; position++) {
                Journals.spoilBoth(j, position);
            }
            j.snapshot(0);
            j.snapshot(1);
            for (int i = 0; i < places; i++) {
                int position = j.write(0, 0, 0, 1);
                c.same("copies of order " + position, 0, () -> j.order(position, 4));
            }
            Journals.valuesAre(c, "written anew", j, places, places, 2 * places, places, 0, 0, 0);
        }
    }

    static void writeIsUndoable(Check c) {
        ShipJournal j = new ShipJournal();
        c.savesOne(j, "the first order", 0, 0, () -> j.write(3, 0, 1, 2));
        Journals.loads(j, 3);
        c.savesOne(j, "the fourth order", 3, 3, () -> j.write(3, 0, 1, 2));
    }

    // ---- 4: spoil

    static void spoilRefusesAnEmptyRing(Check c) {
        ShipJournal j = new ShipJournal();
        c.refuses(j, "spoil(0, 0)", INDEX, () -> j.spoil(0, 0));
        Journals.loads(j, 8);
        Journals.free(j, 8);
        c.refuses(j, "spoil(7, 0) of a ring that is all freed", INDEX, () -> j.spoil(7, 0));
        c.refuses(j, "spoil(8, 0) of a ring that is all freed", INDEX, () -> j.spoil(8, 0));
    }

    static void spoilTakesPositionsFromTheOlderEndToBeforeTheNewerEnd(Check c) {
        ShipJournal j = Journals.withLoads(8);
        Journals.free(j, 3);
        c.refuses(j, "before the older end", INDEX, () -> j.spoil(2, 0));
        c.same("at the older end", 1, () -> j.spoil(3, 0));
        c.same("the last one", 1, () -> j.spoil(7, 0));
        c.refuses(j, "at the newer end", INDEX, () -> j.spoil(8, 0));
        for (int position : new int[] {-1, 0, 3 + 32, 3 - 32, Integer.MIN_VALUE, Integer.MAX_VALUE}) {
            c.refuses(j, "spoil(" + position + ", 1)", INDEX, () -> j.spoil(position, 1));
        }
    }

    static void spoilTakesTheCopiesZeroAndOne(Check c) {
        ShipJournal j = Journals.withLoads(2);
        c.same("copy 0", 1, () -> j.spoil(0, 0));
        c.same("which", 1, () -> j.order(0, 4));
        c.same("copy 1", 1, () -> j.spoil(1, 1));
        c.same("which", 2, () -> j.order(1, 4));
        for (int copy : new int[] {-1, 2, 31, 32, 33, -32, Integer.MIN_VALUE, Integer.MAX_VALUE}) {
            c.refuses(j, "copy " + copy, ARGUMENT, () -> j.spoil(0, copy));
        }
    }

    static void spoilTellsTheWrongPositionBeforeTheWrongCopy(Check c) {
        ShipJournal j = Journals.withLoads(2);
        for (int copy : new int[] {-1, 2}) {
            c.refuses(j, "spoil(2, " + copy + ")", INDEX, () -> j.spoil(2, copy));
            c.refuses(j, "spoil(-1, " + copy + ")", INDEX, () -> j.spoil(-1, copy));
        }
    }

    static void spoilAgainReturnsTheSame(Check c) {
        ShipJournal j = Journals.withLoads(1);
        c.same("copy 1", 1, () -> j.spoil(0, 1));
        c.same("copy 1 again", 1, () -> j.spoil(0, 1));
        c.same("still copy 1 alone", 2, () -> j.order(0, 4));
        c.same("both", 2, () -> j.spoil(0, 0));
        c.same("copy 0 again", 2, () -> j.spoil(0, 0));
        c.same("copy 1 again", 2, () -> j.spoil(0, 1));
        c.same("still both", 3, () -> j.order(0, 4));
    }

    static void spoilSavesAStateThoughItIsSpoiledAlready(Check c) {
        ShipJournal j = Journals.withLoads(1);
        c.savesOne(j, "the first time", 1, 1, () -> j.spoil(0, 0));
        j.spoil(0, 0);
        c.savesOne(j, "again", 2, 1, () -> j.spoil(0, 0));
        c.same("it is spoiled still", 1, () -> j.order(0, 4));
    }

    // ---- 5: repair

    static void repairFindsNothingToRepair(Check c) {
        ShipJournal j = new ShipJournal();
        c.savesOne(j, "in an empty ring", 0, 0, j::repair);
        Journals.loads(j, 3);
        c.savesOne(j, "with sound copies", 3, 0, j::repair);
    }

    static void repairNeedsNoShipWhereTheOtherCopyIsSound(Check c) {
        ShipJournal j = Journals.withLoads(2);
        j.link(0, false);
        j.link(1, false);
        j.spoil(0, 0);
        j.spoil(1, 1);
        c.same("both orders", 2, j::repair);
        Journals.valuesAre(c, "repaired", j, 8, 0, 2, 2, 0, 0, 2);
    }

    static void repairLeavesBothCopiesThatNoShipHasReplayed(Check c) {
        ShipJournal j = Journals.withLoads(1);
        Journals.spoilBoth(j, 0);
        c.savesOne(j, "repair", 3, 0, j::repair);
        c.same("both are spoiled still", 3, () -> j.order(0, 4));
    }

    static void repairAsksForAPositionThatIsGreater(Check c) {
        for (int s = 0; s < 2; s++) {
            int ship = s;
            ShipJournal j = Journals.withLoads(4);
            j.replay(ship, 2);
            Journals.spoilBoth(j, 2);
            c.same("the ship " + ship + " stands at it", 0, j::repair);
            Journals.spoilBoth(j, 1);
            c.same("the ship " + ship + " stands just behind it", 2, j::repair);
            c.same("that one", 0, () -> j.order(1, 4));
            c.same("not the other one", 3, () -> j.order(2, 4));
        }
    }

    static void repairAsksForTheLinkOfTheShipThatHasReplayed(Check c) {
        for (int ship = 0; ship < 2; ship++) {
            ShipJournal j = Journals.withLoads(2);
            j.replay(ship, 1);
            Journals.spoilBoth(j, 0);
            j.link(ship, false);
            c.same("its link is lost, the other one's is up", 0, j::repair);
            j.link(ship, true);
            j.link(1 - ship, false);
            c.same("its link is up, the other one's is lost", 2, j::repair);
        }
    }

    /** Order 1 with each set of spoiled copies, each set of links that are up, each position up to 2 of both ships. */
    static void repairGoesByCopiesLinksAndPositions(Check c) {
        for (int copies = 0; copies < 4; copies++) {
            for (int links = 0; links < 4; links++) {
                for (int p0 = 0; p0 <= 2; p0++) {
                    for (int p1 = 0; p1 <= 2; p1++) {
                        repairsOrderOne(c, copies, links, p0, p1);
                    }
                }
            }
        }
    }

    private static void repairsOrderOne(Check c, int copies, int links, int position0, int position1) {
        ShipJournal j = Journals.withShips(0, position0, 0, position1);
        Journals.spoilSet(j, 1, copies);
        Journals.keepLinks(j, links);
        boolean known = position0 == 2 && (links & 1) == 1 || position1 == 2 && (links & 2) == 2;
        boolean repaired = copies != 3 || known;
        int count = repaired ? Integer.bitCount(copies) : 0;
        String what = "copies " + copies + ", links " + links + ", positions " + position0 + " and " + position1;
        c.same(what, count, j::repair);
        c.same(what + ", spoiled still", repaired ? 0 : 3, () -> j.order(1, 4));
        Journals.valuesAre(c, what, j, 8, 0, 4, 4, repaired ? 0 : 2, repaired ? 0 : 1, count);
    }

    static void repairCountsNoShipThatFellBackBeforeTheOrder(Check c) {
        ShipJournal j = Journals.withLoads(2);
        j.replay(0, 2);
        Journals.spoilBoth(j, 1);
        j.crash(0);
        c.same("behind the crash", 0, j::repair);
        j.replay(0, 1);
        c.same("it stands at the order", 0, j::repair);
    }

    static void repairLeavesFreedOrdersAlone(Check c) {
        ShipJournal j = Journals.withLoads(4);
        j.spoil(0, 0);
        j.spoil(1, 1);
        j.spoil(2, 0);
        Journals.free(j, 2);
        c.same("the kept one alone", 1, j::repair);
        c.same("so many in all", 1, () -> j.value(6));
    }

    /** The place that the next order will take was that of a spoiled one. */
    static void repairLeavesThePlaceBehindTheNewestOrderAlone(Check c) {
        for (int places = 4; places <= 32; places++) {
            ShipJournal j = Journals.full(places);
            for (int position = 0; position < places; position++) {
                j.spoil(position, position % 2);
            }
            Journals.free(j, 3);
            c.same("the kept ones of " + places, places - 3, j::repair);
            Journals.valuesAre(c, "repaired", j, places, 3, places, places - 3, 0, 0, places - 3);
            j.spoil(places - 1, 0);
            j.begin(places);
            c.same("none behind begin", 0, j::repair);
        }
    }

    static void repairGoesFromTheOldestToTheNewestOrder(Check c) {
        ShipJournal j = Journals.withLoads(8);
        Journals.free(j, 3);
        j.spoil(3, 1);
        j.spoil(7, 0);
        c.same("both", 2, j::repair);
        c.same("the oldest", 0, () -> j.order(3, 4));
        c.same("the newest", 0, () -> j.order(7, 4));
    }

    static void repairOfAWholeRing(Check c) {
        ShipJournal j = Journals.full(32);
        j.replay(1, 32);
        for (int position = 0; position < 32; position++) {
            Journals.spoilBoth(j, position);
        }
        c.same("64 copies", 64, j::repair);
        Journals.valuesAre(c, "repaired", j, 32, 0, 32, 32, 0, 0, 64);
        c.same("none is left", 0, j::repair);
    }

    static void repairIsUndoable(Check c) {
        ShipJournal j = Journals.withLoads(1);
        j.spoil(0, 1);
        c.savesOne(j, "one copy", 2, 1, j::repair);
        c.same("it is spoiled again", 2, () -> j.order(0, 4));
        c.same("and not counted", 0, () -> j.value(6));
    }
}
