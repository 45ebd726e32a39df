/** Promises 24 and 25, calls that are refused, and the last of 512 calls: one case for each boundary. */
public final class StateBoundariesTest {
    private static final Class<?> ARGUMENT = IllegalArgumentException.class;
    private static final Class<?> STATE = IllegalStateException.class;
    private static final Class<?> INDEX = IndexOutOfBoundsException.class;
    private static final int MOST_CALLS = 512;

    private interface Call {
        long on(ShipJournal j);
    }

    public static void main(String[] args) {
        Cases.runAll(StateBoundariesTest.class);
    }

    /** A full ring, a lost link, a full text, and four saved states that differ. */
    private static ShipJournal busy() {
        ShipJournal j = Journals.full(5);
        j.replay(0, 3);
        j.snapshot(0);
        j.replay(1, 4);
        j.snapshot(1);
        j.write(4, 1, 2, 7);
        j.write(2, 2, 0, 7);
        j.write(0, 6, 0, 7);
        j.crash(1);
        j.replay(0, 2);
        j.spoil(6, 0);
        j.spoil(3, 1);
        j.link(0, false);
        Journals.put(j, "r11;" + "c1;".repeat(32));
        return j;
    }

    private static String outcome(ShipJournal j, Call call) {
        try {
            return Long.toString(call.on(j));
        } catch (RuntimeException e) {
            return e.getClass().getSimpleName();
        }
    }

    /** What the journal answers from here on, down to its oldest saved state and its ships' snapshots. */
    private static String trail(ShipJournal j) {
        StringBuilder told = new StringBuilder();
        told.append(j.digest());
        for (int i = 0; i < 5; i++) {
            told.append(' ').append(outcome(j, ShipJournal::undo)).append(' ').append(j.digest());
        }
        told.append(' ').append(j.carryOut()).append(' ').append(j.digest());
        for (int ship = 0; ship < 2; ship++) {
            told.append(' ').append(j.crash(ship)).append(' ').append(j.digest());
        }
        return told.append(' ').append(j.clearText()).toString();
    }

    /** The call answers so, and behind it the journal answers as one that was never called. */
    private static void leavesAllAsItIs(Check c, String what, String want, Call call) {
        ShipJournal called = busy();
        String got = outcome(called, call);
        c.holds(what + " answered " + got + ", due is " + want, want.equals(got));
        c.holds(what + " changes nothing", trail(busy()).equals(trail(called)));
    }

    private static void refused(Check c, String what, Class<?> want, Call call) {
        leavesAllAsItIs(c, what, want.getSimpleName(), call);
    }

    // ---- calls that are refused change nothing, however many states are saved

    static void refusedCallsOfTheRing(Check c) {
        refused(c, "begin(3)", ARGUMENT, j -> j.begin(3));
        refused(c, "begin(33)", ARGUMENT, j -> j.begin(33));
        refused(c, "write of a wrong kind", ARGUMENT, j -> j.write(5, 0, 1, 1));
        refused(c, "write of the same hold twice", ARGUMENT, j -> j.write(3, 1, 1, 1));
        refused(c, "write into a full ring", STATE, j -> j.write(0, 0, 0, 1));
        refused(c, "spoil at no position", INDEX, j -> j.spoil(2, 0));
        refused(c, "spoil of no copy", ARGUMENT, j -> j.spoil(5, 2));
    }

    static void refusedCallsOfTheShips(Check c) {
        refused(c, "replay of no ship", INDEX, j -> j.replay(2, 1));
        refused(c, "replay of no order", ARGUMENT, j -> j.replay(1, 0));
        refused(c, "snapshot of no ship", INDEX, j -> j.snapshot(-1));
        refused(c, "snapshot without its link", STATE, j -> j.snapshot(0));
        refused(c, "crash of no ship", INDEX, j -> j.crash(2));
        refused(c, "link of no ship", INDEX, j -> j.link(-1, true));
        refused(c, "link that is lost already", STATE, j -> j.link(0, false));
        refused(c, "link that is up already", STATE, j -> j.link(1, true));
    }

    static void refusedCallsThatAsk(Check c) {
        refused(c, "order", INDEX, j -> j.order(8, 0));
        refused(c, "order", ARGUMENT, j -> j.order(5, 6));
        refused(c, "ship", INDEX, j -> j.ship(2, 0));
        refused(c, "ship", ARGUMENT, j -> j.ship(1, 6));
        refused(c, "hold", INDEX, j -> j.hold(0, 8));
        refused(c, "value", ARGUMENT, j -> j.value(7));
        refused(c, "ahead", INDEX, j -> j.ahead(2));
        refused(c, "stop", INDEX, j -> j.stop(2));
        refused(c, "tonsAt", INDEX, j -> j.tonsAt(5, 8));
        refused(c, "roomBy", INDEX, j -> j.roomBy(2));
    }

    static void refusedCallsOfTheText(Check c) {
        refused(c, "append of no byte", ARGUMENT, j -> j.append(128));
        refused(c, "append to a full text", STATE, j -> j.append('c'));
    }

    static void refusedUndo(Check c) {
        ShipJournal j = new ShipJournal();
        Journals.put(j, "c0;");
        c.refuses(j, "undo", STATE, j::undo);
        c.same("the text is whole", 1, j::carryOut);
    }

    // ---- calls that are not undoable save nothing

    static void askingSavesNothing(Check c) {
        leavesAllAsItIs(c, "order", "4", j -> j.order(5, 0));
        leavesAllAsItIs(c, "ship", "5", j -> j.ship(0, 0));
        leavesAllAsItIs(c, "hold", "10", j -> j.hold(0, 0));
        leavesAllAsItIs(c, "value", "5", j -> j.value(0));
        leavesAllAsItIs(c, "ahead", "4", j -> j.ahead(1));
        leavesAllAsItIs(c, "stop", "8", j -> j.stop(0));
        leavesAllAsItIs(c, "tonsAt", "7", j -> j.tonsAt(8, 6));
        leavesAllAsItIs(c, "agree", "1", ShipJournal::agree);
        leavesAllAsItIs(c, "roomBy", "1", j -> j.roomBy(0));
        leavesAllAsItIs(c, "slower", "0", ShipJournal::slower);
        leavesAllAsItIs(c, "fullness", "1", j -> (long) j.fullness());
        leavesAllAsItIs(c, "digest", Long.toString(busy().digest()), ShipJournal::digest);
    }

    static void theTextSavesNothing(Check c) {
        leavesAllAsItIs(c, "a text that is written anew", "100", j -> {
            int length = j.clearText();
            Journals.put(j, "r11;" + "c1;".repeat(32));
            return length;
        });
        leavesAllAsItIs(c, "a syntax error", "-110", j -> {
            Journals.put(j, "r11;" + "c1;".repeat(31) + "r12");
            int answer = j.carryOut();
            Journals.put(j, "r11;" + "c1;".repeat(32));
            return answer;
        });
    }

    // ---- 24: undo

    static void undoRefusesWithoutASavedState(Check c) {
        ShipJournal j = new ShipJournal();
        c.refuses(j, "at the start", STATE, j::undo);
        j.crash(0);
        c.same("one state", 0, j::undo);
        c.refuses(j, "no second one", STATE, j::undo);
    }

    static void undoRemainsFromZeroToThree(Check c) {
        for (int s = 1; s <= 6; s++) {
            int states = Math.min(s, 4);
            ShipJournal j = Journals.withLoads(s);
            for (int u = 1; u <= states; u++) {
                int left = states - u;
                int orders = s - u;
                c.same(s + " saved, remain", left, j::undo);
                c.same(s + " saved, orders", orders, () -> j.value(2));
            }
            c.refuses(j, s + " saved, all restored", STATE, j::undo);
        }
    }

    static void undoDropsTheOldestOfFiveStatesFirst(Check c) {
        ShipJournal j = Journals.withLoads(5);
        for (int u = 0; u < 4; u++) {
            j.undo();
        }
        c.same("the state behind the first order is the last one left", 1, () -> j.value(2));
        c.refuses(j, "that before it is dropped", STATE, j::undo);
    }

    static void undoFindsNewStatesOnTopOfOlderOnes(Check c) {
        ShipJournal j = Journals.withLoads(4);
        j.undo();
        j.undo();
        j.write(1, 7, 0, 50);
        c.same("the new one", 2, j::undo);
        c.same("orders", 2, () -> j.value(2));
        c.same("the older one", 1, j::undo);
        c.same("orders", 1, () -> j.value(2));
        c.same("the oldest one", 0, j::undo);
        c.same("orders", 0, () -> j.value(2));
    }

    static void undoIsNotUndoable(Check c) {
        ShipJournal j = Journals.withLoads(1);
        c.same("undo", 0, j::undo);
        c.refuses(j, "undo of undo", STATE, j::undo);
        c.same("nothing is written", 0, () -> j.value(2));
    }

    static void undoLeavesTheText(Check c) {
        ShipJournal j = new ShipJournal();
        j.crash(0);
        Journals.put(j, "l0,1;");
        j.undo();
        c.same("bytes put behind the saved state stay", 1, j::carryOut);
        j.clearText();
        j.undo();
        c.same("bytes cleared behind the saved state stay away", 0, j::clearText);
    }

    static void undoRestoresBothShips(Check c) {
        for (int ship = 0; ship < 2; ship++) {
            int s = ship;
            ShipJournal j = Journals.withLoads(6);
            j.replay(s, 3);
            j.snapshot(s);
            j.replay(s, 1);
            long before = j.digest();
            j.replay(s, 1);
            j.snapshot(s);
            j.crash(s);
            j.link(s, false);
            for (int u = 0; u < 4; u++) {
                j.undo();
            }
            Journals.shipIs(c, "ship " + s, j, s, 4, 3, 1, 10, 4, 0);
            c.holds("four states are gone", before != j.digest());
            c.same("its snapshot is restored, too", 1, () -> j.crash(s));
            c.same("with its holds", 6, () -> j.hold(s, 0));
        }
    }

    static void undoRestoresTheRing(Check c) {
        ShipJournal j = Journals.full(4);
        j.replay(0, 2);
        j.replay(1, 2);
        j.snapshot(0);
        j.spoil(1, 0);
        j.snapshot(1);
        j.write(4, 6, 5, 44);
        j.repair();
        j.spoil(2, 1);
        for (int u = 0; u < 4; u++) {
            j.undo();
        }
        Journals.valuesAre(c, "restored", j, 4, 0, 4, 4, 1, 0, 0);
        Journals.orderIs(c, "the oldest", j, 0, 0, 0, 0, 10, 0, 3);
        Journals.orderIs(c, "the spoiled one", j, 1, 0, 1, 0, 10, 1, 3);
        c.refuses(j, "the ring is full again", STATE, () -> j.write(0, 0, 0, 1));
    }

    /** Four orders of another kind take the places of the oldest ones, at each size. */
    static void undoRestoresOrdersWhosePlacesAreUsedAgain(Check c) {
        for (int places = 4; places <= 32; places++) {
            ShipJournal j = Journals.ofPlaces(places);
            for (int i = 0; i < places; i++) {
                j.write(4, i % 4, 4 + i % 3, 50 + i);
            }
            j.replay(0, 4);
            j.replay(1, 4);
            j.spoil(0, 1);
            j.snapshot(0);
            Journals.put(j, "t1;s21,9;l7,8;s21,7;s21,6;");
            c.same("commands", 5, j::carryOut);
            Journals.orderIs(c, "the newest", j, places + 3, 3, 2, 1, 6, 0, 0);
            c.same("undo", 3, j::undo);
            for (int i = 0; i < 4; i++) {
                Journals.orderIs(c, places + " places", j, i, 4, i, 4 + i % 3, 50 + i, i == 0 ? 2 : 0, 3);
            }
            Journals.orderIs(c, places + " places", j, places - 1, 4, (places - 1) % 4, 4 + (places - 1) % 3,
                    50 + places - 1, 0);
        }
    }

    /** A new ring's orders take the places of the former one's. */
    static void undoRestoresTheOrdersFromBeforeBegin(Check c) {
        ShipJournal j = new ShipJournal();
        j.write(2, 3, 4, 5);
        j.spoil(0, 1);
        j.begin(32);
        j.write(3, 6, 7, 8);
        j.undo();
        j.undo();
        Journals.orderIs(c, "before begin", j, 0, 2, 3, 4, 5, 2, 0);
        Journals.valuesAre(c, "before begin", j, 8, 0, 1, 1, 1, 0, 0);
    }

    /** The new ring takes all 32 places before it is undone. */
    static void undoRestoresEachPlaceOfTheLargestRing(Check c) {
        ShipJournal j = Journals.rich();
        j.begin(32);
        Journals.put(j, "v64,1;".repeat(16));
        c.same("16 orders", 16, j::carryOut);
        c.same("32 orders", 16, j::carryOut);
        for (int u = 0; u < 3; u++) {
            j.undo();
        }
        for (int i = 0; i < 32; i++) {
            int kind = i % 5;
            int spoiled = i == 23 ? 1 : i == 31 ? 2 : 0;
            Journals.orderIs(c, "restored", j, 8 + i, kind, i % 8, kind < 2 ? 0 : (i + 3) % 8, 60 + i,
                    spoiled, i < 20 ? 2 : 0);
        }
    }

    static void undoRestoresEachHoldOfShipsAndSnapshots(Check c) {
        ShipJournal j = Journals.rich();
        int[] tons = new int[8];
        for (int h = 0; h < 8; h++) {
            tons[h] = j.hold(1, h);
        }
        j.begin(8);
        c.same("all holds are empty", 0, () -> j.ship(1, 3));
        c.same("undo", 3, j::undo);
        Journals.holdsAre(c, "ship 0", j, 0, 10, 20, 30, 40, 50, 60, 70, 80);
        Journals.holdsAre(c, "ship 1", j, 1, tons);
        c.same("ship 0 falls by nothing", 0, () -> j.crash(0));
        c.same("ship 1 falls", 20, () -> j.crash(1));
        Journals.holdsAre(c, "snapshot of ship 0", j, 0, 10, 20, 30, 40, 50, 60, 70, 80);
        Journals.holdsAre(c, "snapshot of ship 1", j, 1, 10, 20, 30, 40, 50, 60, 70, 80);
    }

    /** Behind a crash a ship has replayed more orders than its position tells: each comes back for itself. */
    static void undoRestoresPositionsBehindCrashes(Check c) {
        for (int s = 0; s < 2; s++) {
            int ship = s;
            ShipJournal j = Journals.withShips(1, 3, 1, 3);
            c.same("ship " + ship, 2, () -> j.crash(ship));
            Journals.shipIs(c, "crashed", j, ship, 1, 1, 1, 1, 5, 2);
            c.same("undo", 3, j::undo);
            Journals.shipIs(c, "restored", j, ship, 3, 1, 1, 6, 5, 1);
        }
    }

    static void undoRestoresPlacesAndRepairedCopies(Check c) {
        ShipJournal j = Journals.withLoads(3);
        j.spoil(1, 1);
        j.repair();
        j.begin(32);
        Journals.loads(j, 3);
        for (int u = 0; u < 4; u++) {
            j.undo();
        }
        Journals.valuesAre(c, "restored", j, 8, 0, 3, 3, 0, 0, 1);
    }

    // ---- 25: digest

    static void digestOfANewObject(Check c) {
        c.same("digest", 7451609989574557562L, () -> new ShipJournal().digest());
    }

    static void digestOfAnswersThatAreNone(Check c) {
        ShipJournal j = new ShipJournal();
        j.write(0, 3, 5, 50);
        Journals.spoilBoth(j, 0);
        c.same("tonsAt", -7620810472007890800L, j::digest);
        ShipJournal k = new ShipJournal();
        k.write(0, 3, 5, 50);
        k.replay(1, 1);
        Journals.spoilBoth(k, 0);
        c.same("tonsAt and agree", 5018279073022891255L, k::digest);
    }

    static void digestOfTheTextIsThatOfItsLength(Check c) {
        for (int l = 0; l <= 100; l++) {
            int length = l;
            ShipJournal j = new ShipJournal();
            Journals.put(j, "x".repeat(length));
            c.same("length " + length, Journals.digestDue(j, length, 0), j::digest);
            j.clearText();
            Journals.put(j, "\0".repeat(length));
            c.same("length " + length + ", other bytes", Journals.digestDue(j, length, 0), j::digest);
        }
    }

    static void digestCountsFromZeroToFourSavedStates(Check c) {
        ShipJournal j = new ShipJournal();
        for (int calls = 0; calls <= 6; calls++) {
            c.same(calls + " calls", Journals.digestDue(j, 0, Math.min(calls, 4)), j::digest);
            j.crash(1);
        }
    }

    static void digestOfEachNumberOfKeptOrders(Check c) {
        ShipJournal j = Journals.ofPlaces(32);
        c.same("none", Journals.digestDue(j, 0, 1), j::digest);
        j.write(4, 7, 0, 99);
        c.same("one", Journals.digestDue(j, 0, 2), j::digest);
        Journals.loads(j, 31);
        c.same("32", Journals.digestDue(j, 0, 4), j::digest);
        ShipJournal k = Journals.full(32);
        Journals.free(k, 32);
        c.same("32 that are freed", Journals.digestDue(k, 0, 4), k::digest);
        ShipJournal m = Journals.full(32);
        Journals.free(m, 3);
        Journals.loads(m, 3);
        c.same("around the ring", Journals.digestDue(m, 0, 4), m::digest);
    }

    static void digestChangesNothing(Check c) {
        ShipJournal j = busy();
        long first = j.digest();
        c.same("again", first, j::digest);
        c.same("four states are saved still", 3, j::undo);
    }

    // ---- the last of 512 calls

    static void theLastCallOfManyCrashes(Check c) {
        ShipJournal j = new ShipJournal();
        for (int call = 1; call < MOST_CALLS; call++) {
            j.crash(1);
        }
        c.same("511 crashes", 511, () -> j.ship(1, 5));
    }

    static void theLastCallOfManyStatesThatComeAndGo(Check c) {
        ShipJournal j = new ShipJournal();
        for (int call = 1; call < MOST_CALLS; call += 2) {
            j.write(0, 0, 0, 1);
            if (call + 1 < MOST_CALLS) {
                j.undo();
            }
        }
        c.same("undo", 0, j::undo);
    }

    /** 100 bytes, then 16 orders a call: no row may run out, and the order's place goes around 204 times. */
    static void theLastCallOfManyTexts(Check c) {
        ShipJournal j = new ShipJournal();
        int calls = 1;
        j.begin(32);
        String text = "l7,9;".repeat(16) + "r099;r199;t0;t1;r01;";
        for (int i = 0; i < text.length(); i++) {
            j.append(text.charAt(i));
            calls++;
        }
        int orders = 0;
        while (calls + 3 < MOST_CALLS) {
            c.same("commands", 21, j::carryOut);
            calls++;
            orders += 16;
        }
        int written = orders;
        c.same("the newer end", written, () -> j.value(2));
        c.same("the older end", written, () -> j.value(1));
        c.same("tons", 999, () -> j.hold(1, 7));
    }

    /** Each call of the face, far from the start, as the last one. */
    static void theLastCallOfEachKind(Check c) {
        Call[] calls = {j -> j.begin(4), j -> j.write(0, 0, 0, 1), j -> j.spoil(7, 0), ShipJournal::repair,
            j -> j.replay(0, 1), j -> j.snapshot(0), j -> j.crash(0), j -> j.link(0, false), j -> j.order(7, 3),
            j -> j.ship(0, 4), j -> j.hold(0, 0), j -> j.value(6), j -> j.ahead(0), j -> j.stop(0),
            j -> j.tonsAt(0, 0), ShipJournal::agree, j -> j.roomBy(0), ShipJournal::slower,
            j -> (long) (100 * j.fullness()), j -> j.append(0), ShipJournal::clearText, ShipJournal::carryOut,
            ShipJournal::undo};
        String[] want = {"8", STATE.getSimpleName(), "1", "0", "1", "0", "0", "1", "8", "0", "0", "0", "8", "8", "0", "1", "0", "2", "100", "1", "0", "0", "3"};
        for (int i = 0; i < calls.length; i++) {
            ShipJournal j = Journals.withLoads(8);
            for (int call = 9; call < MOST_CALLS; call++) {
                j.repair();
            }
            String got = outcome(j, calls[i]);
            c.holds("call " + i + " answered " + got + ", due is " + want[i], want[i].equals(got));
        }
    }
}
