/** Promises 21 to 25: the text, undo and the digest. */
public final class TextPromisesTest {
    private static final Class<?> ARGUMENT = IllegalArgumentException.class;
    private static final Class<?> STATE = IllegalStateException.class;

    private static final Check CHECK = new Check();

    public static void main(String[] args) {
        promise21();
        promise22();
        promise23Commands();
        promise23Stops();
        promise23Undoable();
        promise23SyntaxErrors();
        promise24();
        promise24AfterEach();
        promise24OverwrittenOrders();
        promise25();
        promise25OfASpoiledRing();
        CHECK.close("TextPromisesTest");
    }

    private static void carries(ShipJournal j, String text, int want) {
        Journals.put(j, text);
        CHECK.same("23: \"" + text + "\"", want, j::carryOut);
    }

    private static void promise21() {
        ShipJournal j = new ShipJournal();
        CHECK.same("21: the least byte", 1, () -> j.append(0));
        CHECK.same("21: the greatest byte", 2, () -> j.append(127));
        for (int value : new int[] {-1, 128, 255, 256, Integer.MIN_VALUE, Integer.MAX_VALUE}) {
            CHECK.refuses(j, "21: append(" + value + ")", ARGUMENT, () -> j.append(value));
        }
        for (int length = 3; length <= 100; length++) {
            CHECK.same("21: length " + length, length, () -> j.append(';'));
        }
        CHECK.refuses(j, "21: the 101st byte", STATE, () -> j.append(';'));
        CHECK.refuses(j, "21: a wrong byte comes before a full text", ARGUMENT, () -> j.append(128));
        CHECK.refuses(j, "21: append is not undoable", STATE, j::undo);
    }

    private static void promise22() {
        ShipJournal j = new ShipJournal();
        CHECK.same("22: no text", 0, j::clearText);
        Journals.put(j, "x;y");
        CHECK.same("22: the length it had", 3, j::clearText);
        CHECK.same("22: it is empty", 0, j::clearText);
        CHECK.same("22: and can be filled anew", 1, () -> j.append('t'));
        CHECK.same("22: its first byte is the new one", -11, j::carryOut);
        CHECK.refuses(j, "22: clearText is not undoable", STATE, j::undo);
    }

    private static void promise23Commands() {
        ShipJournal j = new ShipJournal();
        carries(j, "", 0);
        carries(j, "l0,50;u0,07;m07,40;s01,1;v17,99;r09;", 6);
        int[][] orders = {{0, 0, 0, 50}, {1, 0, 0, 7}, {2, 0, 7, 40}, {3, 0, 1, 1}, {4, 1, 7, 99}};
        for (int p = 0; p < orders.length; p++) {
            for (int w = 0; w < 4; w++) {
                int position = p;
                int what = w;
                CHECK.same("23: order(" + p + ", " + w + ")", orders[p][w], () -> j.order(position, what));
            }
        }
        CHECK.same("23: ship 0 has replayed", 5, () -> j.ship(0, 0));
        CHECK.same("23: hold 1", 22, () -> j.hold(0, 1));
        CHECK.same("23: hold 7", 21, () -> j.hold(0, 7));
        CHECK.same("23: the text stays", 36, j::clearText);
        carries(j, "r11;r101;t0;c0;", 4);
        CHECK.same("23: ship 1 has replayed", 2, () -> j.ship(1, 0));
        CHECK.same("23: snapshot of ship 0", 5, () -> j.ship(0, 1));
        CHECK.same("23: crash of ship 0", 1, () -> j.ship(0, 5));
        carries(j, "t1;c1;", 2);
        CHECK.same("23: the older end", 2, () -> j.value(1));
        CHECK.same("23: crash of ship 1", 1, () -> j.ship(1, 5));
        carries(j, "l7,99;", 1);
        CHECK.same("23: the greatest amount", 99, () -> j.order(5, 3));
        carries(j, "r199;r099;", 2);
        CHECK.same("23: the rest is replayed", 6, () -> j.ship(1, 0));
        j.undo();
        carries(j, "m12,3;l2,4;", 2);
        CHECK.same("23: a load after a move has no second hold", 0, () -> j.order(7, 2));
        j.begin(8);
        carries(j, "m08,1;", -12);
        carries(j, "l0,1;u0,1;", 2);
    }

    private static void promise23Stops() {
        ShipJournal j = new ShipJournal();
        j.begin(4);
        carries(j, "l0,1;l0,2;l0,3;l0,4;l0,5;r04;", 4);
        CHECK.same("23: a full ring stops it", 4, () -> j.value(2));
        CHECK.same("23: nothing behind it is done", 0, () -> j.ship(0, 0));
        carries(j, "r02;s33,9;t0;", 1);
        CHECK.same("23: the same hold twice stops it", 0, () -> j.ship(0, 1));
        j.link(0, false);
        carries(j, "r02;c0;t0;c0;", 2);
        CHECK.same("23: a lost link stops a snapshot", 1, () -> j.ship(0, 5));
        CHECK.same("23: but no replay and no crash", 0, () -> j.ship(0, 0));
        j.begin(4);
        carries(j, "m00,1;", 0);
        carries(j, "s77,1;", 0);
        carries(j, "v44,1;", 0);
        StringBuilder most = new StringBuilder();
        for (int i = 0; i < 33; i++) {
            most.append("c1;");
        }
        carries(j, most.toString(), 33);
        CHECK.same("23: 33 crashes", 33, () -> j.ship(1, 5));
        carries(j, most + "t", -110);
    }

    private static void promise23Undoable() {
        ShipJournal j = new ShipJournal();
        carries(j, "", 0);
        CHECK.same("23: no command saves a state", 0, j::undo);
        carries(j, "l0,1;l0,2;r02;t0;c0;", 5);
        CHECK.same("23: five commands save one state", 0, j::undo);
        CHECK.same("23: all is undone", 0, () -> j.value(2));
        CHECK.same("23: the text stays at undo", 20, j::clearText);
        carries(j, "m00,1;", 0);
        CHECK.same("23: a stop at once saves a state", 0, j::undo);
        Journals.put(j, "l0,1;l0,100;");
        long before = j.digest();
        CHECK.same("23: a syntax error", -20, j::carryOut);
        CHECK.same("23: nothing changes by it", before, j::digest);
        CHECK.refuses(j, "23: and no state is saved", STATE, j::undo);
    }

    private static void promise23SyntaxErrors() {
        Object[][] wrong = {
            {"x", 0}, {" ", 0}, {";", 0}, {"0", 0}, {"L0,1;", 0}, {"k0,1;", 0}, {"\0", 0}, {"\177", 0},
            {"l", 1}, {"l8,1;", 1}, {"l,1;", 1}, {"l/,1;", 1}, {"l 0,1;", 1}, {"l-1,1;", 1},
            {"l0", 2}, {"l0;", 2}, {"l01,5;", 2}, {"l05;", 2}, {"l0 ,5;", 2},
            {"l0,", 3}, {"l0,;", 3}, {"l0,x", 3}, {"l0,/;", 3}, {"l0,:;", 3}, {"l0,-1;", 3}, {"l0, 1;", 3},
            {"l0,5", 4}, {"l0,5,", 4}, {"l0,5 ;", 4}, {"l0,12", 5}, {"l0,12:", 5}, {"l0,100;", 5}, {"l0,123", 5},
            {"l0,0", 3}, {"l0,00", 3}, {"l0,0;", 3}, {"l0,00;", 3}, {"l0,0x", 3}, {"l0,00x", 3}, {"l0,0,", 3},
            {"l0,000", 5}, {"l0,001;", 5}, {"l0,010;", 5}, {"l0,0/", 3}, {"l0,0:", 3},
            {"u", 1}, {"u9", 1}, {"u00,1;", 2}, {"u7,0;", 3},
            {"m", 1}, {"m0", 2}, {"m0,1;", 2}, {"m08,1;", 2}, {"m80,1;", 1}, {"m01", 3}, {"m011;", 3}, {"m01,", 4},
            {"m01,0;", 4}, {"m01,00", 4}, {"m01,000", 6}, {"m01,5", 5}, {"m01,55", 6}, {"m01,555;", 6},
            {"s01;", 3}, {"s0;", 2}, {"s01,99x", 6}, {"v12,0", 4}, {"v1x,1;", 2}, {"v90", 1},
            {"r", 1}, {"r2", 1}, {"r21;", 1}, {"r/1;", 1}, {"r0", 2}, {"r0;", 2}, {"r0,1;", 2}, {"r00;", 2},
            {"r000;", 2}, {"r0000;", 4}, {"r0100;", 4}, {"r1", 2}, {"r11", 3}, {"r111", 4}, {"r1111;", 4},
            {"r100", 2}, {"r10", 2}, {"r10x", 2},
            {"t", 1}, {"t2;", 1}, {"t;", 1}, {"t0", 2}, {"t01;", 2}, {"t0,", 2},
            {"c", 1}, {"c2;", 1}, {"c1", 2}, {"c1c", 2}, {"c1;;", 3}, {"c1;t0;x", 6}, {"c1; t0;", 3},
            {"l0,1;u0,1;m01,1;r00;", 18}, {"l0,1;m00,5;l0,0;", 14},
        };
        for (Object[] w : wrong) {
            ShipJournal j = new ShipJournal();
            carries(j, (String) w[0], -10 - (Integer) w[1]);
            CHECK.refuses(j, "23: no syntax error saves a state", STATE, j::undo);
            CHECK.same("23: no syntax error writes an order", 0, () -> j.value(2));
        }
        StringBuilder longest = new StringBuilder();
        for (int i = 0; i < 100; i++) {
            longest.append(i % 5 == 0 ? 'u' : i % 5 == 1 ? '7' : i % 5 == 2 ? ',' : i % 5 == 3 ? '1' : ';');
        }
        ShipJournal j = new ShipJournal();
        carries(j, longest.toString(), 8);
        carries(j, longest.substring(0, 99), -109);
        carries(j, longest.substring(0, 95) + "l0,12", -110);
        carries(j, longest.substring(0, 95) + "l0,00", -108);
    }

    private static void promise24() {
        ShipJournal j = new ShipJournal();
        CHECK.refuses(j, "24: no saved state", STATE, j::undo);
        for (int i = 1; i <= 7; i++) {
            j.write(0, 0, 0, i);
        }
        for (int left = 3; left >= 0; left--) {
            int newer = left + 3;
            CHECK.same("24: states remain", left, j::undo);
            CHECK.same("24: the state before the call", newer, () -> j.value(2));
        }
        CHECK.refuses(j, "24: the older ones are dropped", STATE, j::undo);
        CHECK.same("24: the orders are whole", 3, () -> j.order(2, 3));
        j.write(1, 5, 0, 9);
        CHECK.same("24: an order written anew", 9, () -> j.order(3, 3));
        CHECK.same("24: and undone", 0, j::undo);
        j.replay(0, 2);
        j.snapshot(0);
        Journals.put(j, "c0;");
        j.carryOut();
        j.link(0, false);
        CHECK.same("24: of the link", 3, j::undo);
        CHECK.same("24: the link is up", 1, () -> j.ship(0, 2));
        CHECK.same("24: of the text's commands", 2, j::undo);
        CHECK.same("24: no crash", 0, () -> j.ship(0, 5));
        CHECK.same("24: the text stays", 3, j::clearText);
        CHECK.same("24: of the snapshot", 1, j::undo);
        CHECK.same("24: no snapshot", 0, () -> j.ship(0, 1));
        CHECK.same("24: of the replay", 0, j::undo);
        CHECK.same("24: no order is replayed", 0, () -> j.ship(0, 4));
        CHECK.same("24: empty holds", 0, () -> j.ship(0, 3));
    }

    private interface Change {
        long on(ShipJournal j);
    }

    /** Whatever the change is, undo brings back all that the digest tells. */
    private static void promise24AfterEach() {
        Change[] changes = {j -> j.begin(5), j -> j.write(4, 1, 2, 3), j -> j.spoil(2, 0), j -> j.spoil(3, 1),
            ShipJournal::repair, j -> j.replay(1, 1), j -> j.replay(1, 9), j -> j.snapshot(1), j -> j.crash(0),
            j -> j.crash(1), j -> j.link(0, true), j -> j.link(1, false), ShipJournal::carryOut};
        for (int i = 0; i < changes.length; i++) {
            ShipJournal j = busyJournal();
            long before = j.digest();
            changes[i].on(j);
            CHECK.holds("24: change " + i + " changes the digest", before != j.digest());
            CHECK.same("24: undo of change " + i, 3, j::undo);
            CHECK.same("24: the digest behind the undo of change " + i, before, j::digest);
        }
    }

    private static void ordersAre(String what, ShipJournal j, int... values) {
        for (int i = 0; i < values.length; i++) {
            int position = j.value(1);
            int w = i;
            CHECK.same("24: " + what + ", order's value " + w, values[w], () -> j.order(position, w));
        }
    }

    /** Undo brings back orders whose places in the ring were used anew. */
    private static void promise24OverwrittenOrders() {
        ShipJournal j = new ShipJournal();
        j.write(2, 3, 4, 5);
        j.spoil(0, 1);
        j.begin(32);
        j.write(3, 6, 7, 8);
        ordersAre("after begin", j, 3, 6, 7, 8, 0, 0);
        j.undo();
        j.undo();
        ordersAre("before begin", j, 2, 3, 4, 5, 2, 0);
        j.begin(32);
        for (int i = 0; i < 32; i++) {
            j.write(4, 1, 2, 50 + i);
        }
        j.replay(0, 1);
        j.replay(1, 1);
        j.snapshot(0);
        j.spoil(0, 0);
        j.snapshot(1);
        j.write(3, 2, 1, 9);
        ordersAre("the second of 32", j, 4, 1, 2, 51, 0, 0);
        CHECK.same("24: the newest of 32", 9, () -> j.order(32, 3));
        j.undo();
        j.undo();
        ordersAre("the first of 32", j, 4, 1, 2, 50, 1, 3);
    }

    private static ShipJournal busyJournal() {
        ShipJournal j = new ShipJournal();
        for (int order = 0; order < 6; order++) {
            j.write(order % 5, order, order + 1, 50 + order);
        }
        j.replay(0, 3);
        j.snapshot(0);
        j.replay(0, 2);
        j.replay(1, 2);
        j.snapshot(1);
        j.replay(1, 2);
        j.spoil(4, 1);
        j.spoil(3, 0);
        j.link(0, false);
        Journals.put(j, "r19;t1;c1;l0,5;");
        // Leaves three saved states, so that the next one drops none.
        j.begin(4);
        j.undo();
        return j;
    }

    private static void promise25() {
        ShipJournal j = new ShipJournal();
        CHECK.same("25: a new object", Journals.digestDue(j, 0, 0), j::digest);
        Journals.put(j, "l0,9");
        CHECK.same("25: the text's length", Journals.digestDue(j, 4, 0), j::digest);
        j.begin(12);
        CHECK.same("25: a saved state", Journals.digestDue(j, 4, 1), j::digest);
        writeNine(j);
        CHECK.same("25: orders and holds", Journals.digestDue(j, 4, 4), j::digest);
        CHECK.same("25: asking again", j.digest(), j::digest);
    }

    private static void writeNine(ShipJournal j) {
        for (int i = 0; i < 9; i++) {
            j.write(i % 5, i % 8, (i + 3) % 8, 90 + i);
        }
        j.replay(0, 4);
        j.replay(1, 6);
    }

    private static void promise25OfASpoiledRing() {
        ShipJournal j = new ShipJournal();
        j.begin(12);
        writeNine(j);
        j.snapshot(0);
        j.snapshot(1);
        j.crash(0);
        j.spoil(5, 0);
        CHECK.same("25: freed orders", Journals.digestDue(j, 0, 4), j::digest);
        j.spoil(5, 1);
        CHECK.same("25: an unreadable order", Journals.digestDue(j, 0, 4), j::digest);
        j.link(1, false);
        j.undo();
        j.link(0, false);
        CHECK.same("25: a lost link", Journals.digestDue(j, 0, 4), j::digest);
    }
}
