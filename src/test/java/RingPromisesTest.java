/** Promises 1 to 9: a new object, the ring and the ships. */
public final class RingPromisesTest {
    private static final Class<?> ARGUMENT = IllegalArgumentException.class;
    private static final Class<?> STATE = IllegalStateException.class;
    private static final Class<?> INDEX = IndexOutOfBoundsException.class;
    private static final int[] NO_SHIPS = Journals.NO_SHIPS;

    private static final Check CHECK = new Check();

    public static void main(String[] args) {
        promise1();
        promise2();
        promise2KeepsTextAndSavedStates();
        promise2ForgetsSpoiledCopies();
        promise3();
        promise3Refuses();
        promise4();
        promise5();
        promise6Kinds();
        promise6();
        promise7();
        promise8();
        promise9();
        CHECK.close("RingPromisesTest");
    }

    private static void holdsAre(String what, ShipJournal j, int ship, int... tons) {
        Journals.holdsAre(CHECK, what, j, ship, tons);
    }

    private static void valuesAre(String what, ShipJournal j, int... values) {
        Journals.valuesAre(CHECK, what, j, values);
    }

    private static void promise1() {
        ShipJournal j = new ShipJournal();
        valuesAre("1: new", j, 8, 0, 0, 0, 0, 0, 0);
        for (int ship = 0; ship < 2; ship++) {
            int s = ship;
            int[] first = {0, 0, 1, 0, 0, 0};
            for (int what = 0; what < 6; what++) {
                int w = what;
                CHECK.same("1: ship(" + s + ", " + w + ")", first[w], () -> j.ship(s, w));
            }
            holdsAre("1: new", j, s, 0, 0, 0, 0, 0, 0, 0, 0);
        }
        CHECK.same("1: no text", 0, j::clearText);
        CHECK.refuses(j, "1: no saved state", STATE, j::undo);
        ShipJournal other = new ShipJournal();
        other.write(0, 0, 0, 5);
        CHECK.same("1: objects share nothing", 0, () -> j.value(2));
    }

    private static void promise2() {
        ShipJournal j = new ShipJournal();
        CHECK.same("2: begin(4) of nothing", 0, () -> j.begin(4));
        valuesAre("2: begin(4)", j, 4, 0, 0, 0, 0, 0, 0);
        Journals.loads(j, 4);
        j.spoil(3, 0);
        j.spoil(3, 1);
        j.spoil(0, 1);
        j.repair();
        j.replay(0, 2);
        j.replay(1, 3);
        j.snapshot(0);
        j.snapshot(1);
        j.crash(1);
        j.link(0, false);
        CHECK.same("2: returns the kept orders, not the written ones", 2, () -> j.begin(32));
        valuesAre("2: begin(32)", j, 32, 0, 0, 0, 0, 0, 0);
        for (int what = 0; what < 6; what++) {
            int w = what;
            CHECK.same("2: ship(0, " + w + ") is as at first", w == 2 ? 1 : 0, () -> j.ship(0, w));
            CHECK.same("2: ship(1, " + w + ") is as at first", w == 2 ? 1 : 0, () -> j.ship(1, w));
        }
        CHECK.same("2: snapshots are empty", 0, () -> j.tonsAt(0, 0));
        Journals.loads(j, 4);
        CHECK.same("2: new orders have sound copies", 0, () -> j.value(4));
        j.replay(0, 9);
        CHECK.same("2: a crash after begin falls to position 0", 4, () -> j.crash(0));
        holdsAre("2: crash after begin", j, 0, 0, 0, 0, 0);
        for (int places : new int[] {3, 33, 0, -4, Integer.MIN_VALUE, Integer.MAX_VALUE}) {
            CHECK.refuses(j, "2: begin(" + places + ")", ARGUMENT, () -> j.begin(places));
        }
    }

    private static void promise2KeepsTextAndSavedStates() {
        ShipJournal j = new ShipJournal();
        Journals.loads(j, 1);
        j.append('c');
        CHECK.same("2: begin(5)", 1, () -> j.begin(5));
        CHECK.same("2: the text stays", 2, () -> j.append('0'));
        CHECK.same("2: begin is undoable, and the saved states stay", 1, j::undo);
        valuesAre("2: undone", j, 8, 0, 1, 1);
        CHECK.same("2: the state saved before begin is there", 0, j::undo);
        valuesAre("2: undone twice", j, 8, 0, 0, 0);
    }

    private static void promise2ForgetsSpoiledCopies() {
        ShipJournal j = new ShipJournal();
        Journals.loads(j, 4);
        Journals.spoilBoth(j, 0);
        j.spoil(1, 0);
        CHECK.same("2: begin(6)", 4, () -> j.begin(6));
        valuesAre("2: begin behind spoiling", j, 6, 0, 0, 0, 0, 0, 0);
        CHECK.same("2: nothing is there to repair", 0, j::repair);
        CHECK.same("2: no ship stops", 0, () -> j.stop(0));
        Journals.loads(j, 1);
        valuesAre("2: the copies next to the newest order are no copies", j, 6, 0, 1, 1, 0, 0, 0);
        CHECK.same("2: and nothing to repair", 0, j::repair);
    }

    private static void promise3() {
        ShipJournal j = new ShipJournal();
        CHECK.same("3: the first order", 0, () -> j.write(0, 7, 7, 99));
        CHECK.same("3: the second order", 1, () -> j.write(1, 0, 0, 1));
        CHECK.same("3: a move", 2, () -> j.write(2, 0, 7, 1));
        CHECK.same("3: a swap", 3, () -> j.write(3, 7, 0, 99));
        CHECK.same("3: a level", 4, () -> j.write(4, 1, 2, 50));
        CHECK.same("3: b of a load is 0", 0, () -> j.order(0, 2));
        CHECK.same("3: b of an unload is 0", 0, () -> j.order(1, 2));
        CHECK.same("3: b of a move stays", 7, () -> j.order(2, 2));
        CHECK.same("3: the newer end", 5, () -> j.value(2));
        Journals.loads(j, 3);
        CHECK.refuses(j, "3: the ninth order", STATE, () -> j.write(0, 0, 0, 1));
        CHECK.refuses(j, "3: a wrong order comes before a full ring", ARGUMENT, () -> j.write(5, 0, 0, 1));
        j.replay(0, 99);
        j.replay(1, 1);
        CHECK.refuses(j, "3: replaying frees nothing", STATE, () -> j.write(0, 0, 0, 1));
        j.snapshot(0);
        j.snapshot(1);
        CHECK.same("3: one order is freed", 8, () -> j.write(0, 3, 0, 1));
        CHECK.refuses(j, "3: and no second one", STATE, () -> j.write(0, 0, 0, 1));
        CHECK.same("3: undoable", 3, j::undo);
        CHECK.same("3: undone", 8, () -> j.value(2));
        j.begin(32);
        for (int i = 0; i < 32; i++) {
            int position = i;
            CHECK.same("3: 32 places", position, () -> j.write(0, position % 8, 0, 1 + position));
        }
        CHECK.refuses(j, "3: 33rd order", STATE, () -> j.write(0, 0, 0, 1));
        CHECK.same("3: the first of 32", 1, () -> j.order(0, 3));
        CHECK.same("3: the last of 32", 32, () -> j.order(31, 3));
        j.replay(0, 5);
        j.replay(1, 5);
        j.snapshot(0);
        j.snapshot(1);
        for (int i = 32; i < 37; i++) {
            int position = i;
            CHECK.same("3: around the ring", position, () -> j.write(1, 2, 3, 40 + position));
        }
        CHECK.refuses(j, "3: 33rd kept order", STATE, () -> j.write(0, 0, 0, 1));
        CHECK.same("3: the oldest order is whole", 6, () -> j.order(5, 3));
        CHECK.same("3: the newest order is whole", 76, () -> j.order(36, 3));
    }

    private static void promise3Refuses() {
        ShipJournal j = new ShipJournal();
        Journals.loads(j, 2);
        int[][] wrong = {{-1, 0, 1, 1}, {5, 0, 1, 1}, {0, -1, 0, 1}, {0, 8, 0, 1}, {0, 0, -1, 1}, {0, 0, 8, 1},
            {1, 0, 8, 1}, {4, 0, 8, 1}, {2, 8, 0, 1}, {0, 0, 0, 0}, {0, 0, 0, 100}, {3, 0, 1, -1}, {2, 1, 1, 1},
            {3, 0, 0, 1}, {4, 7, 7, 1}, {Integer.MIN_VALUE, 0, 1, 1}, {0, Integer.MAX_VALUE, 0, 1},
            {0, 0, Integer.MIN_VALUE, 1}, {0, 0, 0, Integer.MAX_VALUE}};
        for (int[] w : wrong) {
            CHECK.refuses(j, "3: write(" + w[0] + ", " + w[1] + ", " + w[2] + ", " + w[3] + ")", ARGUMENT,
                    () -> j.write(w[0], w[1], w[2], w[3]));
        }
        CHECK.same("3: a and b may be the same in a load", 2, () -> j.write(0, 3, 3, 1));
        CHECK.same("3: a and b may be the same in an unload", 3, () -> j.write(1, 3, 3, 1));
    }

    private static void promise4() {
        ShipJournal j = new ShipJournal();
        CHECK.refuses(j, "4: nothing is kept", INDEX, () -> j.spoil(0, 0));
        Journals.loads(j, 4);
        CHECK.same("4: copy 1", 1, () -> j.spoil(2, 1));
        CHECK.same("4: copy 1 again", 1, () -> j.spoil(2, 1));
        CHECK.same("4: which copy", 2, () -> j.order(2, 4));
        CHECK.same("4: both copies", 2, () -> j.spoil(2, 0));
        CHECK.same("4: both copies again", 2, () -> j.spoil(2, 0));
        CHECK.same("4: copy 0 of another order", 1, () -> j.spoil(3, 0));
        CHECK.same("4: which copy", 1, () -> j.order(3, 4));
        CHECK.same("4: other orders are sound", 0, () -> j.order(1, 4));
        for (int position : new int[] {-1, 4, 32, -32, Integer.MIN_VALUE, Integer.MAX_VALUE}) {
            CHECK.refuses(j, "4: spoil(" + position + ", 0)", INDEX, () -> j.spoil(position, 0));
            CHECK.refuses(j, "4: the position comes first", INDEX, () -> j.spoil(position, 2));
        }
        for (int copy : new int[] {-1, 2, 32, Integer.MIN_VALUE, Integer.MAX_VALUE}) {
            CHECK.refuses(j, "4: spoil(0, " + copy + ")", ARGUMENT, () -> j.spoil(0, copy));
        }
        CHECK.same("4: a spoiling that changes nothing is undoable", 3, () -> {
            j.spoil(3, 0);
            return j.undo();
        });
        CHECK.same("4: it is spoiled still", 1, () -> j.order(3, 4));
        j.undo();
        CHECK.same("4: undone", 0, () -> j.order(3, 4));
        j.replay(0, 2);
        j.replay(1, 2);
        j.snapshot(0);
        j.snapshot(1);
        CHECK.refuses(j, "4: an order that is freed", INDEX, () -> j.spoil(1, 0));
        CHECK.same("4: the oldest kept order", 2, () -> j.spoil(2, 0));
    }

    private static void promise5() {
        ShipJournal j = new ShipJournal();
        CHECK.same("5: nothing to repair", 0, j::repair);
        Journals.loads(j, 6);
        j.replay(0, 3);
        j.replay(1, 2);
        Journals.spoilBoth(j, 1);
        Journals.spoilBoth(j, 2);
        Journals.spoilBoth(j, 3);
        j.spoil(4, 0);
        j.spoil(5, 1);
        j.link(0, false);
        CHECK.same("5: by ship 1 and by the other copy", 4, j::repair);
        int[] spoiled = {0, 0, 3, 3, 0, 0};
        for (int i = 0; i < 6; i++) {
            int position = i;
            CHECK.same("5: order " + position, spoiled[position], () -> j.order(position, 4));
        }
        CHECK.same("5: counted", 4, () -> j.value(6));
        j.link(0, true);
        CHECK.same("5: ship 0 is back, but has not replayed order 3", 2, j::repair);
        CHECK.same("5: order 3 stays spoiled", 3, () -> j.order(3, 4));
        CHECK.same("5: counted on", 6, () -> j.value(6));
        CHECK.same("5: nothing is left", 0, j::repair);
        CHECK.same("5: a repair of nothing is undoable", 3, j::undo);
        j.undo();
        CHECK.same("5: undone", 3, () -> j.order(2, 4));
        CHECK.same("5: the count is undone, too", 4, () -> j.value(6));
        j.crash(0);
        CHECK.same("5: a ship that crashed has not replayed it any more", 0, j::repair);
        j.link(1, false);
        Journals.spoilBoth(j, 0);
        CHECK.same("5: the position counts, not the link alone", 0, j::repair);
    }

    private static void promise6Kinds() {
        ShipJournal j = new ShipJournal();
        j.begin(32);
        for (int i = 0; i < 11; i++) {
            j.write(0, 0, 0, 99);
        }
        CHECK.same("6: loads", 11, () -> j.replay(0, 99));
        CHECK.same("6: at most 999 tons", 999, () -> j.hold(0, 0));
        j.write(1, 0, 0, 99);
        j.write(2, 0, 1, 60);
        j.replay(0, 2);
        holdsAre("6: unload and move", j, 0, 840, 60, 0);
        j.write(1, 1, 0, 61);
        j.replay(0, 1);
        holdsAre("6: an unload ends at 0", j, 0, 840, 0, 0);
        j.write(0, 2, 0, 5);
        j.write(2, 2, 3, 6);
        j.replay(0, 2);
        holdsAre("6: a move of all that is there", j, 0, 840, 0, 0, 5);
        j.write(3, 0, 3, 1);
        j.replay(0, 1);
        holdsAre("6: a swap", j, 0, 5, 0, 0, 840);
        j.write(4, 0, 1, 1);
        j.replay(0, 1);
        holdsAre("6: a level leaves the odd ton in a", j, 0, 3, 2, 0, 840);
        j.write(4, 1, 3, 99);
        j.replay(0, 1);
        holdsAre("6: an even level", j, 0, 3, 421, 0, 421);
        j.write(4, 2, 0, 99);
        j.replay(0, 1);
        holdsAre("6: the odd ton again", j, 0, 1, 421, 2, 421);
        j.begin(32);
        for (int i = 0; i < 20; i++) {
            j.write(0, i % 2, 0, 99);
        }
        j.write(2, 0, 1, 99);
        j.replay(1, 99);
        holdsAre("6: a move into what room there is", j, 1, 981, 999);
    }

    private static void promise6() {
        ShipJournal j = new ShipJournal();
        CHECK.same("6: nothing is written", 0, () -> j.replay(0, 1));
        Journals.loads(j, 6);
        CHECK.same("6: so many", 2, () -> j.replay(0, 2));
        CHECK.same("6: its position", 2, () -> j.ship(0, 0));
        CHECK.same("6: not the other ship's", 0, () -> j.ship(1, 0));
        Journals.spoilBoth(j, 4);
        j.spoil(3, 1);
        CHECK.same("6: up to the order that cannot be read", 2, () -> j.replay(0, 99));
        CHECK.same("6: no further", 0, () -> j.replay(0, 1));
        j.link(1, false);
        CHECK.same("6: not without a link", 0, () -> j.replay(1, 3));
        CHECK.same("6: its position stays", 0, () -> j.ship(1, 0));
        j.link(1, true);
        CHECK.same("6: with a link", 1, () -> j.replay(1, 1));
        CHECK.same("6: orders replayed", 4, () -> j.ship(0, 4));
        CHECK.same("6: undoable", 3, j::undo);
        CHECK.same("6: undone", 0, () -> j.ship(1, 0));
        CHECK.same("6: undone", 0, () -> j.hold(1, 0));
        for (int ship : NO_SHIPS) {
            CHECK.refuses(j, "6: replay(" + ship + ", 1)", INDEX, () -> j.replay(ship, 1));
            CHECK.refuses(j, "6: the ship comes first", INDEX, () -> j.replay(ship, 0));
        }
        for (int orders : new int[] {0, 100, -1, Integer.MIN_VALUE, Integer.MAX_VALUE}) {
            CHECK.refuses(j, "6: replay(1, " + orders + ")", ARGUMENT, () -> j.replay(1, orders));
        }
    }

    private static void promise7() {
        ShipJournal j = new ShipJournal();
        CHECK.same("7: at first", 0, () -> j.snapshot(0));
        Journals.loads(j, 6);
        j.replay(0, 4);
        j.replay(1, 3);
        CHECK.same("7: the other snapshot holds the older end", 0, () -> j.snapshot(0));
        CHECK.same("7: the older end stays", 0, () -> j.value(1));
        CHECK.same("7: snapshot's position", 4, () -> j.ship(0, 1));
        CHECK.same("7: the slower ship frees", 3, () -> j.snapshot(1));
        valuesAre("7: freed", j, 8, 3, 6, 3);
        CHECK.same("7: again frees nothing", 0, () -> j.snapshot(1));
        j.replay(1, 3);
        CHECK.same("7: up to the snapshot of the other one", 1, () -> j.snapshot(1));
        CHECK.same("7: the older end", 4, () -> j.value(1));
        CHECK.same("7: undoable", 3, j::undo);
        CHECK.same("7: the older end is undone", 3, () -> j.value(1));
        CHECK.same("7: the freed order is there again", 10, () -> j.order(3, 3));
        j.link(1, false);
        CHECK.refuses(j, "7: a lost link", STATE, () -> j.snapshot(1));
        for (int ship : NO_SHIPS) {
            CHECK.refuses(j, "7: snapshot(" + ship + ")", INDEX, () -> j.snapshot(ship));
        }
        j.crash(0);
        holdsAre("7: the snapshot has the holds", j, 0, 10, 10, 10, 10, 0);
    }

    private static void promise8() {
        ShipJournal j = new ShipJournal();
        CHECK.same("8: at first", 0, () -> j.crash(1));
        Journals.loads(j, 6);
        j.replay(0, 2);
        j.snapshot(0);
        j.replay(0, 3);
        j.link(0, false);
        CHECK.same("8: falls, also without a link", 3, () -> j.crash(0));
        CHECK.same("8: its position", 2, () -> j.ship(0, 0));
        holdsAre("8: its holds", j, 0, 10, 10, 0, 0, 0, 0, 0, 0);
        CHECK.same("8: again", 0, () -> j.crash(0));
        CHECK.same("8: crashes", 2, () -> j.ship(0, 5));
        CHECK.same("8: crashes of the other one", 1, () -> j.ship(1, 5));
        CHECK.same("8: the link stays lost", 0, () -> j.ship(0, 2));
        CHECK.same("8: undoable", 3, j::undo);
        CHECK.same("8: undone", 1, () -> j.ship(0, 5));
        j.undo();
        CHECK.same("8: undone", 5, () -> j.ship(0, 0));
        for (int ship : NO_SHIPS) {
            CHECK.refuses(j, "8: crash(" + ship + ")", INDEX, () -> j.crash(ship));
        }
    }

    private static void promise9() {
        ShipJournal j = new ShipJournal();
        CHECK.same("9: lose one", 1, () -> j.link(1, false));
        CHECK.same("9: it is lost", 0, () -> j.ship(1, 2));
        CHECK.same("9: the other one is up", 1, () -> j.ship(0, 2));
        CHECK.same("9: lose both", 0, () -> j.link(0, false));
        CHECK.refuses(j, "9: it is lost already", STATE, () -> j.link(0, false));
        CHECK.same("9: bring one up", 1, () -> j.link(0, true));
        CHECK.refuses(j, "9: it is up already", STATE, () -> j.link(0, true));
        CHECK.same("9: bring both up", 2, () -> j.link(1, true));
        CHECK.same("9: undoable", 3, j::undo);
        CHECK.same("9: undone", 0, () -> j.ship(1, 2));
        for (int ship : NO_SHIPS) {
            CHECK.refuses(j, "9: link(" + ship + ", true)", INDEX, () -> j.link(ship, true));
            CHECK.refuses(j, "9: link(" + ship + ", false)", INDEX, () -> j.link(ship, false));
        }
    }
}
