/** Promises 10 to 20: the values and the forecasts. None of these calls changes anything. */
public final class ValuePromisesTest {
    private static final Class<?> ARGUMENT = IllegalArgumentException.class;
    private static final Class<?> INDEX = IndexOutOfBoundsException.class;
    private static final int[] NO_SHIPS = Journals.NO_SHIPS;
    private static final int[] NO_HOLDS = Journals.NO_HOLDS;

    private static final Check CHECK = new Check();

    public static void main(String[] args) {
        promise10();
        promise11();
        promise12();
        promise13();
        promise14And15();
        promise16();
        promise17();
        promise18();
        promise19();
        promise20();
        askingChangesNothing();
        CHECK.close("ValuePromisesTest");
    }

    private static void promise10() {
        ShipJournal j = new ShipJournal();
        CHECK.refuses(j, "10: nothing is kept", INDEX, () -> j.order(0, 0));
        j.write(3, 6, 4, 17);
        j.write(1, 5, 2, 99);
        j.write(2, 0, 7, 1);
        j.replay(1, 2);
        j.replay(0, 1);
        j.spoil(1, 1);
        j.spoil(2, 0);
        int[][] orders = {{3, 6, 4, 17, 0, 3}, {1, 5, 0, 99, 2, 2}, {2, 0, 7, 1, 1, 0}};
        for (int p = 0; p < 3; p++) {
            for (int w = 0; w < 6; w++) {
                int position = p;
                int what = w;
                CHECK.same("10: order(" + p + ", " + w + ")", orders[p][w], () -> j.order(position, what));
            }
        }
        j.crash(0);
        CHECK.same("10: behind the crash ship 0 has not replayed it", 2, () -> j.order(0, 5));
        j.replay(0, 2);
        CHECK.same("10: both ships again", 3, () -> j.order(1, 5));
        j.crash(1);
        CHECK.same("10: ship 0 alone", 1, () -> j.order(1, 5));
        for (int position : new int[] {-1, 3, 32, Integer.MIN_VALUE, Integer.MAX_VALUE}) {
            CHECK.refuses(j, "10: order(" + position + ", 0)", INDEX, () -> j.order(position, 0));
            CHECK.refuses(j, "10: the position comes first", INDEX, () -> j.order(position, 6));
        }
        for (int what : new int[] {-1, 6, Integer.MIN_VALUE, Integer.MAX_VALUE}) {
            CHECK.refuses(j, "10: order(2, " + what + ")", ARGUMENT, () -> j.order(2, what));
        }
        j.replay(1, 2);
        j.snapshot(0);
        j.snapshot(1);
        CHECK.refuses(j, "10: a freed order", INDEX, () -> j.order(1, 0));
        CHECK.same("10: the oldest kept order", 2, () -> j.order(2, 0));
    }

    private static void promise11() {
        ShipJournal j = Journals.withLoads(5);
        j.write(0, 7, 0, 50);
        j.replay(1, 6);
        j.crash(1);
        j.replay(1, 4);
        j.snapshot(1);
        j.replay(1, 9);
        j.crash(1);
        j.replay(1, 2);
        j.link(1, false);
        int[] values = {6, 4, 0, 65, 14, 2};
        for (int w = 0; w < 6; w++) {
            int what = w;
            CHECK.same("11: ship(1, " + w + ")", values[w], () -> j.ship(1, what));
            CHECK.same("11: ship(0, " + w + ")", w == 2 ? 1 : 0, () -> j.ship(0, what));
        }
        for (int ship : NO_SHIPS) {
            CHECK.refuses(j, "11: ship(" + ship + ", 0)", INDEX, () -> j.ship(ship, 0));
            CHECK.refuses(j, "11: the ship comes first", INDEX, () -> j.ship(ship, 6));
        }
        for (int what : new int[] {-1, 6, Integer.MIN_VALUE, Integer.MAX_VALUE}) {
            CHECK.refuses(j, "11: ship(0, " + what + ")", ARGUMENT, () -> j.ship(0, what));
        }
    }

    private static void promise12() {
        ShipJournal j = new ShipJournal();
        for (int hold = 0; hold < 8; hold++) {
            j.write(0, hold, 0, 10 + hold);
        }
        j.replay(0, 8);
        for (int h = 0; h < 8; h++) {
            int hold = h;
            CHECK.same("12: hold(0, " + h + ")", 10 + h, () -> j.hold(0, hold));
            CHECK.same("12: hold(1, " + h + ")", 0, () -> j.hold(1, hold));
        }
        for (int ship : NO_SHIPS) {
            CHECK.refuses(j, "12: hold(" + ship + ", 0)", INDEX, () -> j.hold(ship, 0));
        }
        for (int hold : NO_HOLDS) {
            CHECK.refuses(j, "12: hold(1, " + hold + ")", INDEX, () -> j.hold(1, hold));
        }
    }

    private static void promise13() {
        ShipJournal j = new ShipJournal();
        j.begin(9);
        for (int i = 0; i < 7; i++) {
            j.write(0, 0, 0, 1);
        }
        j.replay(0, 3);
        j.replay(1, 2);
        j.spoil(0, 1);
        j.spoil(2, 0);
        j.repair();
        j.spoil(0, 0);
        Journals.spoilBoth(j, 3);
        Journals.spoilBoth(j, 6);
        j.spoil(5, 1);
        j.snapshot(0);
        j.snapshot(1);
        int[] values = {9, 2, 7, 5, 5, 2, 2};
        for (int w = 0; w < 7; w++) {
            int what = w;
            CHECK.same("13: value(" + w + ")", values[w], () -> j.value(what));
        }
        for (int what : new int[] {-1, 7, Integer.MIN_VALUE, Integer.MAX_VALUE}) {
            CHECK.refuses(j, "13: value(" + what + ")", ARGUMENT, () -> j.value(what));
        }
    }

    private static void promise14And15() {
        ShipJournal j = new ShipJournal();
        CHECK.same("14: nothing is written", 0, () -> j.ahead(0));
        CHECK.same("15: nothing is written", 0, () -> j.stop(0));
        for (int i = 0; i < 8; i++) {
            j.write(0, 0, 0, 1);
        }
        CHECK.same("14: all", 8, () -> j.ahead(1));
        CHECK.same("15: the newer end", 8, () -> j.stop(1));
        j.replay(0, 3);
        CHECK.same("14: what is left", 5, () -> j.ahead(0));
        j.spoil(4, 0);
        CHECK.same("14: one sound copy is enough", 5, () -> j.ahead(0));
        CHECK.same("15: one sound copy is enough", 8, () -> j.stop(0));
        j.spoil(4, 1);
        Journals.spoilBoth(j, 6);
        Journals.spoilBoth(j, 2);
        CHECK.same("14: up to the first unreadable one", 1, () -> j.ahead(0));
        CHECK.same("14: an earlier position", 2, () -> j.ahead(1));
        CHECK.same("15: from its position on", 4, () -> j.stop(0));
        CHECK.same("15: an earlier position", 2, () -> j.stop(1));
        j.link(0, false);
        CHECK.same("14: no link", 0, () -> j.ahead(0));
        CHECK.same("15: whatever its link", 4, () -> j.stop(0));
        j.replay(1, 99);
        CHECK.same("14: at its stop", 0, () -> j.ahead(1));
        CHECK.same("15: at its stop", 2, () -> j.stop(1));
        for (int ship : NO_SHIPS) {
            CHECK.refuses(j, "14: ahead(" + ship + ")", INDEX, () -> j.ahead(ship));
            CHECK.refuses(j, "15: stop(" + ship + ")", INDEX, () -> j.stop(ship));
        }
        ShipJournal more = new ShipJournal();
        more.begin(32);
        for (int i = 0; i < 32; i++) {
            more.write(0, 0, 0, 1);
        }
        CHECK.same("14: a whole ring", 32, () -> more.ahead(0));
    }

    private static void promise16() {
        ShipJournal j = Journals.withLoads(8);
        CHECK.same("16: at the start", 0, () -> j.tonsAt(0, 0));
        CHECK.same("16: behind 3 orders", 6, () -> j.tonsAt(3, 0));
        CHECK.same("16: at the newer end", 36, () -> j.tonsAt(8, 0));
        CHECK.same("16: another hold", 0, () -> j.tonsAt(8, 1));
        CHECK.same("16: behind the newer end", -1, () -> j.tonsAt(9, 0));
        CHECK.same("16: below 0", -1, () -> j.tonsAt(-1, 0));
        CHECK.same("16: far below", -1, () -> j.tonsAt(Integer.MIN_VALUE, 7));
        CHECK.same("16: far above", -1, () -> j.tonsAt(Integer.MAX_VALUE, 7));
        j.replay(0, 5);
        j.snapshot(0);
        j.replay(1, 2);
        CHECK.same("16: the snapshot counts, not the position", 0, () -> j.tonsAt(0, 0));
        j.snapshot(1);
        CHECK.same("16: before the slower snapshot", -1, () -> j.tonsAt(1, 0));
        CHECK.same("16: at the slower snapshot", 3, () -> j.tonsAt(2, 0));
        CHECK.same("16: from the slower snapshot on", 36, () -> j.tonsAt(8, 0));
        Journals.spoilBoth(j, 3);
        CHECK.same("16: before the unreadable one", 6, () -> j.tonsAt(3, 0));
        CHECK.same("16: an unreadable one, also before the faster snapshot", -1, () -> j.tonsAt(6, 0));
        CHECK.same("16: just behind the unreadable one", -1, () -> j.tonsAt(4, 0));
        j.link(0, false);
        j.link(1, false);
        CHECK.same("16: whatever the links", 6, () -> j.tonsAt(3, 0));
        for (int hold : NO_HOLDS) {
            CHECK.refuses(j, "16: tonsAt(3, " + hold + ")", INDEX, () -> j.tonsAt(3, hold));
            CHECK.refuses(j, "16: no hold, before NONE", INDEX, () -> j.tonsAt(-1, hold));
        }
        ShipJournal k = Journals.withLoads(4);
        k.replay(1, 3);
        k.snapshot(1);
        CHECK.same("16: ship 0 is the slower one", 1, () -> k.tonsAt(1, 0));
    }

    private static void promise17() {
        ShipJournal j = Journals.withLoads(6);
        CHECK.same("17: both at the start", 1, j::agree);
        j.replay(0, 4);
        CHECK.same("17: ship 1 behind", 1, j::agree);
        j.spoil(2, 0);
        CHECK.same("17: one copy is spoiled", 1, j::agree);
        j.spoil(2, 1);
        CHECK.same("17: one between cannot be read", -1, j::agree);
        j.link(1, false);
        CHECK.same("17: whatever the links", -1, j::agree);
        j.link(1, true);
        j.replay(1, 9);
        CHECK.same("17: ship 1 stands before it", -1, j::agree);
        j.repair();
        CHECK.same("17: repaired", 1, j::agree);
        j.replay(1, 9);
        Journals.spoilBoth(j, 4);
        CHECK.same("17: ship 0 behind", -1, j::agree);
        j.replay(0, 9);
        j.crash(1);
        Journals.spoilBoth(j, 5);
        CHECK.same("17: spoiled ones beyond both do not count", 1, () -> {
            j.repair();
            Journals.spoilBoth(j, 5);
            return j.agree();
        });
    }

    private static void promise18() {
        ShipJournal j = Journals.withLoads(6);
        CHECK.same("18: nothing is replayed", 2, () -> j.roomBy(0));
        j.replay(0, 4);
        CHECK.same("18: the other snapshot holds", 2, () -> j.roomBy(0));
        j.snapshot(0);
        j.replay(1, 3);
        CHECK.same("18: ship 1 would free 3", 5, () -> j.roomBy(1));
        j.link(1, false);
        CHECK.same("18: whatever its link", 5, () -> j.roomBy(1));
        j.link(1, true);
        j.replay(1, 3);
        CHECK.same("18: up to the snapshot of ship 0", 6, () -> j.roomBy(1));
        j.replay(0, 2);
        CHECK.same("18: ship 0 would free nothing", 2, () -> j.roomBy(0));
        j.snapshot(1);
        CHECK.same("18: ship 0 would free the rest", 8, () -> j.roomBy(0));
        CHECK.same("18: ship 1 has taken its own", 6, () -> j.roomBy(1));
        for (int ship : NO_SHIPS) {
            CHECK.refuses(j, "18: roomBy(" + ship + ")", INDEX, () -> j.roomBy(ship));
        }
    }

    private static void promise19() {
        ShipJournal j = Journals.withLoads(6);
        CHECK.same("19: both the same", 2, j::slower);
        j.replay(0, 4);
        CHECK.same("19: positions do not count", 2, j::slower);
        j.snapshot(0);
        CHECK.same("19: ship 1", 1, j::slower);
        j.replay(1, 5);
        CHECK.same("19: still ship 1", 1, j::slower);
        j.snapshot(1);
        CHECK.same("19: ship 0", 0, j::slower);
        j.replay(0, 1);
        j.snapshot(0);
        CHECK.same("19: both the same again", 2, j::slower);
    }

    private static void promise20() {
        ShipJournal j = new ShipJournal();
        CHECK.sameDouble("20: empty", 0.0, j::fullness);
        j.begin(7);
        for (int i = 0; i < 7; i++) {
            j.write(0, 0, 0, 1);
            double want = (i + 1.0) / 7.0;
            CHECK.sameDouble("20: " + (i + 1) + " of 7", want, j::fullness);
        }
        j.replay(0, 2);
        j.replay(1, 2);
        j.snapshot(0);
        j.snapshot(1);
        CHECK.sameDouble("20: 5 of 7 kept", 5.0 / 7.0, j::fullness);
    }

    private static void askingChangesNothing() {
        ShipJournal j = Journals.withLoads(5);
        j.replay(0, 4);
        j.snapshot(0);
        j.replay(1, 2);
        Journals.spoilBoth(j, 4);
        long before = j.digest();
        for (int ship = 0; ship < 2; ship++) {
            j.ahead(ship);
            j.stop(ship);
            j.roomBy(ship);
            j.ship(ship, 3);
            j.hold(ship, 0);
        }
        j.agree();
        j.slower();
        j.fullness();
        j.tonsAt(3, 0);
        j.tonsAt(5, 0);
        j.order(4, 5);
        CHECK.same("10 to 20: asking changes nothing", before, j::digest);
        CHECK.same("10 to 20: asking saves nothing", 3, j::undo);
    }
}
