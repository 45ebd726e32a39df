/** Promises 10 to 20: one case for each sentence about values and forecasts that names a boundary. */
public final class ValueBoundariesTest {
    private static final Class<?> ARGUMENT = IllegalArgumentException.class;
    private static final Class<?> INDEX = IndexOutOfBoundsException.class;

    public static void main(String[] args) {
        Cases.runAll(ValueBoundariesTest.class);
    }

    // ---- 10: order

    static void orderRefusesAnEmptyRing(Check c) {
        ShipJournal j = new ShipJournal();
        c.refuses(j, "order(0, 0)", INDEX, () -> j.order(0, 0));
        Journals.loads(j, 4);
        Journals.free(j, 4);
        c.refuses(j, "order(3, 0) of a ring that is all freed", INDEX, () -> j.order(3, 0));
        c.refuses(j, "order(4, 0) of a ring that is all freed", INDEX, () -> j.order(4, 0));
    }

    static void orderTakesPositionsFromTheOlderEndToBeforeTheNewerEnd(Check c) {
        ShipJournal j = Journals.withLoads(8);
        Journals.free(j, 3);
        c.refuses(j, "before the older end", INDEX, () -> j.order(2, 3));
        c.same("at the older end", 4, () -> j.order(3, 3));
        c.same("the last one", 8, () -> j.order(7, 3));
        c.refuses(j, "at the newer end", INDEX, () -> j.order(8, 3));
        for (int position : new int[] {-1, 0, 3 + 32, 3 - 32, Integer.MIN_VALUE, Integer.MAX_VALUE}) {
            c.refuses(j, "order(" + position + ", 0)", INDEX, () -> j.order(position, 0));
        }
    }

    static void orderTakesWhatFromZeroToFive(Check c) {
        ShipJournal j = new ShipJournal();
        j.write(4, 7, 1, 99);
        Journals.orderIs(c, "an order", j, 0, 4, 7, 1, 99, 0, 0);
        for (int what : new int[] {-1, 6, Integer.MIN_VALUE, Integer.MAX_VALUE}) {
            c.refuses(j, "order(0, " + what + ")", ARGUMENT, () -> j.order(0, what));
        }
    }

    static void orderTellsTheWrongPositionBeforeTheWrongWhat(Check c) {
        ShipJournal j = Journals.withLoads(1);
        for (int what : new int[] {-1, 6}) {
            c.refuses(j, "order(1, " + what + ")", INDEX, () -> j.order(1, what));
            c.refuses(j, "order(-1, " + what + ")", INDEX, () -> j.order(-1, what));
        }
    }

    static void orderTellsEachSetOfSpoiledCopies(Check c) {
        ShipJournal j = Journals.withLoads(4);
        j.spoil(1, 0);
        j.spoil(2, 1);
        Journals.spoilBoth(j, 3);
        for (int p = 0; p < 4; p++) {
            int position = p;
            c.same("copies of order " + position, position, () -> j.order(position, 4));
        }
    }

    static void orderTellsEachSetOfShipsWhosePositionIsGreater(Check c) {
        ShipJournal j = Journals.withLoads(3);
        c.same("none at the start", 0, () -> j.order(0, 5));
        j.replay(0, 1);
        c.same("ship 0 behind order 0", 1, () -> j.order(0, 5));
        c.same("ship 0 at order 1", 0, () -> j.order(1, 5));
        j.replay(1, 2);
        c.same("both behind order 0", 3, () -> j.order(0, 5));
        c.same("ship 1 behind order 1", 2, () -> j.order(1, 5));
        c.same("both before order 2", 0, () -> j.order(2, 5));
        j.link(0, false);
        j.link(1, false);
        c.same("whatever the links", 3, () -> j.order(0, 5));
        j.crash(1);
        c.same("no more behind a crash", 1, () -> j.order(0, 5));
    }

    // ---- 11: ship

    static void shipTakesTheShipsZeroAndOne(Check c) {
        ShipJournal j = Journals.withLoads(2);
        j.replay(0, 2);
        j.replay(1, 1);
        c.same("ship 0", 2, () -> j.ship(0, 0));
        c.same("ship 1", 1, () -> j.ship(1, 0));
        for (int ship : Journals.NO_SHIPS) {
            c.refuses(j, "ship " + ship, INDEX, () -> j.ship(ship, 0));
        }
    }

    static void shipTakesWhatFromZeroToFive(Check c) {
        ShipJournal j = Journals.withLoads(3);
        j.replay(1, 2);
        j.snapshot(1);
        j.replay(1, 1);
        j.crash(1);
        j.link(1, false);
        Journals.shipIs(c, "ship 1", j, 1, 2, 2, 0, 3, 3, 1);
        for (int what : new int[] {-1, 6, Integer.MIN_VALUE, Integer.MAX_VALUE}) {
            c.refuses(j, "ship(1, " + what + ")", ARGUMENT, () -> j.ship(1, what));
        }
    }

    static void shipTellsTheWrongShipBeforeTheWrongWhat(Check c) {
        ShipJournal j = new ShipJournal();
        for (int what : new int[] {-1, 6}) {
            c.refuses(j, "ship(2, " + what + ")", INDEX, () -> j.ship(2, what));
            c.refuses(j, "ship(-1, " + what + ")", INDEX, () -> j.ship(-1, what));
        }
    }

    /** 88 loads of 99 tons, more than a ring holds at once: 999 tons in each of the 8 holds. */
    static void shipSumsUpToFullHolds(Check c) {
        ShipJournal j = Journals.ofPlaces(32);
        for (int i = 0; i < 88; i++) {
            j.write(0, i / 11, 0, 99);
            Journals.free(j, 1);
        }
        c.same("the sum of ship 0", 7992, () -> j.ship(0, 3));
        c.same("the sum of ship 1", 7992, () -> j.ship(1, 3));
        Journals.holdsAre(c, "full", j, 0, 999, 999, 999, 999, 999, 999, 999, 999);
    }

    static void shipCountsOrdersReplayedAgain(Check c) {
        ShipJournal j = Journals.withLoads(4);
        j.replay(0, 4);
        c.same("once", 4, () -> j.ship(0, 4));
        j.crash(0);
        c.same("a crash takes none away", 4, () -> j.ship(0, 4));
        j.replay(0, 3);
        c.same("some of them again", 7, () -> j.ship(0, 4));
        c.same("the other ship", 0, () -> j.ship(1, 4));
    }

    // ---- 12: hold

    static void holdTakesTheHoldsZeroToSeven(Check c) {
        ShipJournal j = new ShipJournal();
        j.write(0, 0, 0, 20);
        j.write(0, 7, 0, 70);
        j.replay(0, 1);
        j.replay(1, 2);
        c.same("hold(0, 0)", 20, () -> j.hold(0, 0));
        c.same("hold(0, 7)", 0, () -> j.hold(0, 7));
        c.same("hold(1, 7)", 70, () -> j.hold(1, 7));
        for (int hold : Journals.NO_HOLDS) {
            c.refuses(j, "hold(0, " + hold + ")", INDEX, () -> j.hold(0, hold));
            c.refuses(j, "hold(1, " + hold + ")", INDEX, () -> j.hold(1, hold));
        }
    }

    static void holdTakesTheShipsZeroAndOne(Check c) {
        ShipJournal j = new ShipJournal();
        for (int ship : Journals.NO_SHIPS) {
            c.refuses(j, "hold(" + ship + ", 0)", INDEX, () -> j.hold(ship, 0));
            c.refuses(j, "hold(" + ship + ", 8)", INDEX, () -> j.hold(ship, 8));
        }
    }

    // ---- 13: value

    static void valueTakesWhatFromZeroToSix(Check c) {
        ShipJournal j = Journals.ofPlaces(9);
        Journals.loads(j, 7);
        Journals.free(j, 2);
        j.spoil(4, 1);
        j.repair();
        Journals.spoilBoth(j, 5);
        j.spoil(6, 0);
        Journals.valuesAre(c, "a ring", j, 9, 2, 7, 5, 3, 1, 1);
        for (int what : new int[] {-1, 7, Integer.MIN_VALUE, Integer.MAX_VALUE}) {
            c.refuses(j, "value(" + what + ")", ARGUMENT, () -> j.value(what));
        }
    }

    static void valueOfARingThatIsAllFreed(Check c) {
        ShipJournal j = Journals.full(4);
        Journals.free(j, 4);
        Journals.valuesAre(c, "all freed", j, 4, 4, 4, 0, 0, 0, 0);
    }

    static void valueOfAWholeRingThatIsSpoiled(Check c) {
        ShipJournal j = Journals.full(32);
        for (int position = 0; position < 32; position++) {
            Journals.spoilBoth(j, position);
        }
        Journals.valuesAre(c, "all spoiled", j, 32, 0, 32, 32, 64, 32, 0);
    }

    static void valueCountsNoCopiesOfFreedOrders(Check c) {
        ShipJournal j = Journals.withLoads(4);
        j.replay(0, 3);
        j.replay(1, 3);
        Journals.spoilBoth(j, 0);
        Journals.spoilBoth(j, 2);
        j.spoil(3, 0);
        Journals.valuesAre(c, "kept", j, 8, 0, 4, 4, 5, 2, 0);
        j.snapshot(0);
        j.snapshot(1);
        Journals.valuesAre(c, "freed", j, 8, 3, 4, 1, 1, 0, 0);
    }

    static void valueCountsAnOrderAsUnreadableWhenBothCopiesAreSpoiled(Check c) {
        ShipJournal j = Journals.withLoads(2);
        j.spoil(0, 1);
        c.same("one copy", 0, () -> j.value(5));
        j.spoil(0, 0);
        c.same("both copies", 1, () -> j.value(5));
    }

    // ---- 14: ahead

    static void aheadTakesTheShipsZeroAndOne(Check c) {
        ShipJournal j = Journals.withLoads(3);
        j.replay(1, 1);
        c.same("ship 0", 3, () -> j.ahead(0));
        c.same("ship 1", 2, () -> j.ahead(1));
        for (int ship : Journals.NO_SHIPS) {
            c.refuses(j, "ahead(" + ship + ")", INDEX, () -> j.ahead(ship));
        }
    }

    static void aheadIsNothingAtTheNewerEnd(Check c) {
        ShipJournal j = Journals.withLoads(3);
        c.same("three", 3, () -> j.ahead(0));
        j.replay(0, 2);
        c.same("one", 1, () -> j.ahead(0));
        j.replay(0, 1);
        c.same("none", 0, () -> j.ahead(0));
    }

    static void aheadIsNothingWithoutItsOwnLink(Check c) {
        ShipJournal j = Journals.withLoads(3);
        j.link(0, false);
        c.same("ship 0", 0, () -> j.ahead(0));
        c.same("ship 1", 3, () -> j.ahead(1));
        j.link(0, true);
        j.link(1, false);
        c.same("ship 0", 3, () -> j.ahead(0));
        c.same("ship 1", 0, () -> j.ahead(1));
    }

    static void aheadEndsBeforeAnOrderThatCannotBeRead(Check c) {
        ShipJournal j = Journals.withLoads(3);
        j.spoil(0, 0);
        j.spoil(2, 1);
        c.same("single copies", 3, () -> j.ahead(0));
        j.spoil(2, 0);
        c.same("the last one", 2, () -> j.ahead(0));
        j.spoil(0, 1);
        c.same("the first one", 0, () -> j.ahead(0));
    }

    static void aheadOfAWholeRing(Check c) {
        ShipJournal j = Journals.full(32);
        c.same("at the start", 32, () -> j.ahead(1));
        Journals.free(j, 5);
        Journals.loads(j, 5);
        c.same("around the ring", 32, () -> j.ahead(1));
    }

    // ---- 15: stop

    static void stopTakesTheShipsZeroAndOne(Check c) {
        ShipJournal j = Journals.withLoads(3);
        c.same("ship 0", 3, () -> j.stop(0));
        c.same("ship 1", 3, () -> j.stop(1));
        for (int ship : Journals.NO_SHIPS) {
            c.refuses(j, "stop(" + ship + ")", INDEX, () -> j.stop(ship));
        }
    }

    static void stopIsTheNewerEndWhereNothingIsInTheWay(Check c) {
        ShipJournal j = new ShipJournal();
        c.same("of an empty ring", 0, () -> j.stop(0));
        Journals.loads(j, 3);
        c.same("of three orders", 3, () -> j.stop(0));
        j.replay(0, 3);
        c.same("at the newer end", 3, () -> j.stop(0));
    }

    static void stopIsAtTheFirstOrderThatCannotBeRead(Check c) {
        ShipJournal j = Journals.withLoads(6);
        j.spoil(0, 1);
        Journals.spoilBoth(j, 5);
        c.same("the last one", 5, () -> j.stop(0));
        Journals.spoilBoth(j, 3);
        c.same("the first of two", 3, () -> j.stop(0));
        j.replay(0, 3);
        c.same("the one it stands at", 3, () -> j.stop(0));
    }

    static void stopLooksFromItsOwnPositionOn(Check c) {
        ShipJournal j = Journals.withLoads(6);
        j.replay(0, 3);
        Journals.spoilBoth(j, 2);
        c.same("ship 0 is just behind it", 6, () -> j.stop(0));
        c.same("ship 1 comes to it", 2, () -> j.stop(1));
    }

    static void stopAsksForNoLink(Check c) {
        ShipJournal j = Journals.withLoads(6);
        j.link(1, false);
        c.same("the newer end", 6, () -> j.stop(1));
        Journals.spoilBoth(j, 4);
        c.same("the unreadable one", 4, () -> j.stop(1));
    }

    /** The positions are far greater than the places then. */
    static void stopIsFoundAroundTheRing(Check c) {
        for (int places = 4; places <= 32; places++) {
            ShipJournal j = Journals.full(places);
            Journals.free(j, 3);
            Journals.loads(j, 3);
            Journals.free(j, 2);
            int last = places + 2;
            c.same("nothing is in the way in " + places, last + 1, () -> j.stop(0));
            c.same("ahead in " + places, places - 2, () -> j.ahead(0));
            Journals.spoilBoth(j, last);
            c.same("the last one of " + places, last, () -> j.stop(0));
            c.same("ahead of it in " + places, places - 3, () -> j.ahead(1));
            c.same("replayed up to it in " + places, places - 3, () -> j.replay(1, 99));
        }
    }

    /** In a full ring of 32 places the newer end's place is that of the oldest order. */
    static void stopTakesNoPlaceForItsNextTurn(Check c) {
        ShipJournal j = Journals.full(32);
        j.replay(0, 32);
        Journals.spoilBoth(j, 0);
        c.same("at the newer end", 32, () -> j.stop(0));
        c.same("nothing is ahead", 0, () -> j.ahead(0));
        c.same("nothing is replayed", 0, () -> j.replay(0, 1));
    }

    // ---- 16: tonsAt

    static void tonsAtTakesTheHoldsZeroToSeven(Check c) {
        ShipJournal j = new ShipJournal();
        j.write(0, 0, 0, 20);
        j.write(0, 7, 0, 70);
        c.same("hold 0", 20, () -> j.tonsAt(2, 0));
        c.same("hold 7", 70, () -> j.tonsAt(2, 7));
        for (int hold : Journals.NO_HOLDS) {
            c.refuses(j, "tonsAt(1, " + hold + ")", INDEX, () -> j.tonsAt(1, hold));
            c.refuses(j, "tonsAt(-1, " + hold + ")", INDEX, () -> j.tonsAt(-1, hold));
            c.refuses(j, "tonsAt(3, " + hold + ")", INDEX, () -> j.tonsAt(3, hold));
        }
    }

    static void tonsAtGoesFromTheSlowerSnapshotToTheNewerEnd(Check c) {
        ShipJournal j = Journals.withLoads(6);
        j.replay(0, 4);
        j.snapshot(0);
        j.replay(1, 2);
        j.snapshot(1);
        c.same("before the slower snapshot", ShipJournal.NONE, () -> j.tonsAt(1, 0));
        c.same("at the slower snapshot", 3, () -> j.tonsAt(2, 0));
        c.same("one order behind it", 6, () -> j.tonsAt(3, 0));
        c.same("before the newer end", 15, () -> j.tonsAt(5, 0));
        c.same("at the newer end", 21, () -> j.tonsAt(6, 0));
        c.same("behind the newer end", ShipJournal.NONE, () -> j.tonsAt(7, 0));
        for (int position : new int[] {-1, 0, 2 - 32, 3 + 32, Integer.MIN_VALUE, Integer.MAX_VALUE}) {
            c.same("tonsAt(" + position + ", 0)", ShipJournal.NONE, () -> j.tonsAt(position, 0));
        }
    }

    static void tonsAtStartsWithTheLesserSnapshotOfEitherShip(Check c) {
        for (int slow = 0; slow < 2; slow++) {
            ShipJournal j = Journals.withLoads(5);
            j.replay(1 - slow, 4);
            j.snapshot(1 - slow);
            c.same("the slower one has none yet", 0, () -> j.tonsAt(0, 0));
            j.replay(slow, 1);
            c.same("its position does not count", 0, () -> j.tonsAt(0, 0));
            j.snapshot(slow);
            c.same("its snapshot does", ShipJournal.NONE, () -> j.tonsAt(0, 0));
            c.same("its tons", 1, () -> j.tonsAt(1, 0));
            c.same("the tons on the way", 6, () -> j.tonsAt(3, 0));
        }
    }

    static void tonsAtOfEqualSnapshots(Check c) {
        ShipJournal j = Journals.withLoads(5);
        Journals.free(j, 3);
        c.same("before them", ShipJournal.NONE, () -> j.tonsAt(2, 0));
        c.same("at them", 6, () -> j.tonsAt(3, 0));
        c.same("at the newer end", 15, () -> j.tonsAt(5, 0));
    }

    static void tonsAtOfAnEmptyRing(Check c) {
        ShipJournal j = Journals.withLoads(5);
        Journals.free(j, 5);
        c.same("where both ends are", 15, () -> j.tonsAt(5, 0));
        c.same("before", ShipJournal.NONE, () -> j.tonsAt(4, 0));
        c.same("behind", ShipJournal.NONE, () -> j.tonsAt(6, 0));
    }

    static void tonsAtNeedsTheOrdersBeforeThePositionAlone(Check c) {
        ShipJournal j = Journals.withLoads(4);
        j.spoil(0, 0);
        j.spoil(2, 0);
        j.spoil(2, 1);
        c.same("up to the unreadable one", 3, () -> j.tonsAt(2, 0));
        c.same("just behind it", ShipJournal.NONE, () -> j.tonsAt(3, 0));
        c.same("at the newer end", ShipJournal.NONE, () -> j.tonsAt(4, 0));
        Journals.spoilBoth(j, 0);
        c.same("before an unreadable oldest one", 0, () -> j.tonsAt(0, 0));
        c.same("behind it", ShipJournal.NONE, () -> j.tonsAt(1, 0));
    }

    /** Ship 0 has replayed the order, but the answer is worked out from the slower snapshot. */
    static void tonsAtNeedsOrdersThatAShipHasReplayedToo(Check c) {
        ShipJournal j = Journals.withLoads(4);
        j.replay(0, 3);
        j.snapshot(0);
        Journals.spoilBoth(j, 1);
        c.same("at the faster snapshot", ShipJournal.NONE, () -> j.tonsAt(3, 0));
    }

    static void tonsAtAsksForNoLink(Check c) {
        ShipJournal j = Journals.withLoads(4);
        j.link(0, false);
        j.link(1, false);
        c.same("at the newer end", 10, () -> j.tonsAt(4, 0));
    }

    // ---- 17: agree

    static void agreeOfShipsAtTheSamePosition(Check c) {
        ShipJournal j = Journals.withLoads(3);
        c.same("at the start", 1, j::agree);
        j.replay(0, 2);
        j.replay(1, 2);
        Journals.spoilBoth(j, 2);
        Journals.spoilBoth(j, 1);
        c.same("no order is between them", 1, j::agree);
    }

    static void agreeNeedsTheOrdersFromTheOneBehindToBeforeTheOtherOne(Check c) {
        for (int behind = 0; behind < 2; behind++) {
            for (int spoiled = 0; spoiled < 6; spoiled++) {
                ShipJournal j = Journals.withLoads(6);
                j.replay(behind, 2);
                j.replay(1 - behind, 5);
                j.spoil(spoiled, 0);
                c.same("ship " + behind + " behind, one copy of order " + spoiled, 1, j::agree);
                j.spoil(spoiled, 1);
                boolean between = spoiled >= 2 && spoiled < 5;
                c.same("ship " + behind + " behind, order " + spoiled, between ? ShipJournal.NONE : 1, j::agree);
            }
        }
    }

    static void agreeAsksForNoLink(Check c) {
        ShipJournal j = Journals.withLoads(3);
        j.replay(0, 2);
        j.link(0, false);
        j.link(1, false);
        c.same("both links lost", 1, j::agree);
    }

    static void agreeComparesWithTheWholeWayMade(Check c) {
        ShipJournal j = new ShipJournal();
        j.write(0, 0, 0, 99);
        j.write(4, 0, 7, 1);
        j.write(2, 7, 3, 20);
        j.write(3, 3, 0, 1);
        j.write(1, 7, 0, 99);
        j.replay(1, 5);
        c.same("from the start", 1, j::agree);
        j.replay(0, 3);
        c.same("from the middle", 1, j::agree);
    }

    // ---- 18: roomBy

    static void roomByTakesTheShipsZeroAndOne(Check c) {
        ShipJournal j = Journals.withLoads(3);
        c.same("ship 0", 5, () -> j.roomBy(0));
        c.same("ship 1", 5, () -> j.roomBy(1));
        for (int ship : Journals.NO_SHIPS) {
            c.refuses(j, "roomBy(" + ship + ")", INDEX, () -> j.roomBy(ship));
        }
    }

    static void roomByOfAFullRing(Check c) {
        ShipJournal j = Journals.full(4);
        j.replay(0, 4);
        c.same("the other snapshot holds all", 0, () -> j.roomBy(0));
        j.snapshot(0);
        c.same("nothing is replayed by ship 1", 0, () -> j.roomBy(1));
        j.replay(1, 1);
        c.same("one order", 1, () -> j.roomBy(1));
        j.replay(1, 3);
        c.same("the whole ring", 4, () -> j.roomBy(1));
    }

    static void roomByOfAnEmptyRing(Check c) {
        ShipJournal j = new ShipJournal();
        c.same("8 places", 8, () -> j.roomBy(0));
        j.begin(32);
        c.same("32 places", 32, () -> j.roomBy(1));
    }

    static void roomByCountsTheLesserOfItsPositionAndTheOtherSnapshot(Check c) {
        for (int ship = 0; ship < 2; ship++) {
            int s = ship;
            ShipJournal j = Journals.withLoads(8);
            j.replay(1 - s, 4);
            j.snapshot(1 - s);
            j.replay(1 - s, 2);
            for (int position = 0; position <= 8; position++) {
                c.same("ship " + s + " at " + position, Math.min(position, 4), () -> j.roomBy(s));
                j.replay(s, 1);
            }
        }
    }

    static void roomByAsksForNoLink(Check c) {
        ShipJournal j = Journals.withLoads(8);
        j.replay(0, 3);
        j.snapshot(0);
        j.replay(1, 5);
        j.link(1, false);
        c.same("its link is lost", 3, () -> j.roomBy(1));
    }

    static void roomByTakesNoSnapshot(Check c) {
        ShipJournal j = Journals.withLoads(8);
        j.replay(0, 3);
        j.snapshot(0);
        j.replay(1, 5);
        c.same("asked once", 3, () -> j.roomBy(1));
        Journals.shipIs(c, "its snapshot", j, 1, 5, 0);
        Journals.valuesAre(c, "the ends", j, 8, 0, 8, 8);
    }

    // ---- 19: slower

    static void slowerTellsTheShipOrThatBothAreTheSame(Check c) {
        ShipJournal j = Journals.withLoads(4);
        c.same("at the start", 2, j::slower);
        j.replay(0, 3);
        c.same("positions do not count", 2, j::slower);
        j.snapshot(0);
        c.same("ship 1", 1, j::slower);
        j.replay(1, 2);
        j.snapshot(1);
        c.same("ship 1, one order behind", 1, j::slower);
        j.replay(1, 1);
        j.snapshot(1);
        c.same("the same", 2, j::slower);
        j.replay(1, 1);
        j.snapshot(1);
        c.same("ship 0, one order behind", 0, j::slower);
    }

    // ---- 10 to 19 for ships that stand apart

    /** Each snapshot and each position up to four, of both ships: which of them an answer goes by. */
    static void valuesGoByTheRightSnapshotsAndPositions(Check c) {
        for (int s0 = 0; s0 <= 4; s0++) {
            for (int p0 = s0; p0 <= 4; p0++) {
                for (int s1 = 0; s1 <= 4; s1++) {
                    for (int p1 = s1; p1 <= 4; p1++) {
                        shipsStandApart(c, new int[] {s0, s1}, new int[] {p0, p1});
                    }
                }
            }
        }
    }

    private static void shipsStandApart(Check c, int[] snapshots, int[] positions) {
        ShipJournal j = Journals.withShips(snapshots[0], positions[0], snapshots[1], positions[1]);
        String what = "snapshots " + snapshots[0] + " and " + snapshots[1]
                + ", positions " + positions[0] + " and " + positions[1];
        int olderEnd = Math.min(snapshots[0], snapshots[1]);
        Journals.valuesAre(c, what, j, 8, olderEnd, 4, 4 - olderEnd, 0, 0, 0);
        for (int s = 0; s < 2; s++) {
            int ship = s;
            Journals.shipIs(c, what + ", ship " + ship, j, ship, positions[ship], snapshots[ship], 1,
                    Journals.tonsBehind(positions[ship]), Journals.replayedUpTo(snapshots[ship], positions[ship]),
                    Journals.crashesUpTo(snapshots[ship], positions[ship]));
            c.same(what + ", ahead", 4 - positions[ship], () -> j.ahead(ship));
            c.same(what + ", stop", 4, () -> j.stop(ship));
            int kept = 4 - Math.min(positions[ship], snapshots[1 - ship]);
            c.same(what + ", room by " + ship, 8 - kept, () -> j.roomBy(ship));
        }
        for (int p = -1; p <= 5; p++) {
            int position = p;
            int tons = p < olderEnd || p > 4 ? ShipJournal.NONE : Journals.tonsBehind(p);
            c.same(what + ", tons at " + p, tons, () -> j.tonsAt(position, 0));
        }
        int slower = snapshots[0] == snapshots[1] ? 2 : snapshots[0] < snapshots[1] ? 0 : 1;
        c.same(what + ", slower", slower, j::slower);
        c.same(what + ", agree", 1, j::agree);
        c.sameDouble(what + ", fullness", (4 - olderEnd) / 8.0, j::fullness);
        replayedBy(c, what, j, olderEnd, positions);
    }

    private static void replayedBy(Check c, String what, ShipJournal j, int olderEnd, int[] positions) {
        for (int p = olderEnd; p < 4; p++) {
            int position = p;
            int ships = (positions[0] > p ? 1 : 0) + (positions[1] > p ? 2 : 0);
            c.same(what + ", ships behind the order " + p, ships, () -> j.order(position, 5));
        }
    }

    // ---- 20: fullness

    static void fullnessGoesFromZeroToOne(Check c) {
        for (int p = 4; p <= 32; p++) {
            double places = p;
            ShipJournal j = Journals.ofPlaces(p);
            c.sameDouble("none of " + p, 0.0, j::fullness);
            for (int i = 1; i <= p; i++) {
                j.write(0, 0, 0, 1);
                c.sameDouble(i + " of " + p, i / places, j::fullness);
            }
            c.sameDouble("all of " + p, 1.0, j::fullness);
        }
    }

    static void fullnessCountsNoFreedOrders(Check c) {
        ShipJournal j = Journals.full(7);
        Journals.free(j, 2);
        c.sameDouble("5 of 7", 5.0 / 7.0, j::fullness);
        Journals.free(j, 5);
        c.sameDouble("all are freed", 0.0, j::fullness);
    }
}
