/** Journals in the states that tests start from. */
final class Journals {
    static final int[] NO_SHIPS = {-1, 2, 3, Integer.MIN_VALUE, Integer.MAX_VALUE};
    static final int[] NO_HOLDS = {-1, 8, Integer.MIN_VALUE, Integer.MAX_VALUE};
    static final int MOST_AMOUNT = 99;

    private Journals() {
    }

    static ShipJournal ofPlaces(int places) {
        ShipJournal j = new ShipJournal();
        j.begin(places);
        return j;
    }

    /** A ring of so many places, all taken. */
    static ShipJournal full(int places) {
        ShipJournal j = ofPlaces(places);
        loads(j, places);
        return j;
    }

    /** A new journal with loads of 1, 2, 3, .. tons into the hold 0. */
    static ShipJournal withLoads(int count) {
        ShipJournal j = new ShipJournal();
        for (int i = 0; i < count; i++) {
            j.write(0, 0, 0, i + 1);
        }
        return j;
    }

    /** Loads of 10 tons into one hold after the other. */
    static void loads(ShipJournal j, int count) {
        for (int i = 0; i < count; i++) {
            j.write(0, i % 8, 0, 10);
        }
    }

    /** Spoils this set of copies: bit c for the copy c. */
    static void spoilSet(ShipJournal j, int position, int copies) {
        for (int copy = 0; copy < 2; copy++) {
            if ((copies >> copy & 1) == 1) {
                j.spoil(position, copy);
            }
        }
    }

    /** Loses the link of each ship that is not in this set: bit s for the ship s. */
    static void keepLinks(ShipJournal j, int ships) {
        for (int ship = 0; ship < 2; ship++) {
            if ((ships >> ship & 1) == 0) {
                j.link(ship, false);
            }
        }
    }

    static void spoilBoth(ShipJournal j, int position) {
        j.spoil(position, 0);
        j.spoil(position, 1);
    }

    /** Both ships replay so many orders and take snapshots: orders before both are not kept any more. */
    static void free(ShipJournal j, int orders) {
        for (int ship = 0; ship < 2; ship++) {
            j.replay(ship, orders);
            j.snapshot(ship);
        }
    }

    /**
     * Four loads, as withLoads writes them; each ship has taken its snapshot and gone on to its position. A ship that
     * has gone on did so twice, with a crash between, so that it has replayed more orders than its position tells.
     */
    static ShipJournal withShips(int snapshot0, int position0, int snapshot1, int position1) {
        ShipJournal j = withLoads(4);
        bring(j, 0, snapshot0, position0);
        bring(j, 1, snapshot1, position1);
        return j;
    }

    private static void bring(ShipJournal j, int ship, int snapshot, int position) {
        if (snapshot > 0) {
            j.replay(ship, snapshot);
            j.snapshot(ship);
        }
        if (position > snapshot) {
            j.replay(ship, position - snapshot);
            j.crash(ship);
            j.replay(ship, position - snapshot);
        }
    }

    /** The orders that such a ship has replayed. */
    static int replayedUpTo(int snapshot, int position) {
        return 2 * position - snapshot;
    }

    /** The crashes of such a ship. */
    static int crashesUpTo(int snapshot, int position) {
        return position > snapshot ? 1 : 0;
    }

    /** What withLoads leaves in the hold 0 behind so many orders. */
    static int tonsBehind(int orders) {
        return orders * (orders + 1) / 2;
    }

    /** A ring of 32 places whose ship 0 has these tons in the holds 0 and 1; 22 orders at most are written. */
    static ShipJournal withTons(int inHold0, int inHold1) {
        ShipJournal j = ofPlaces(32);
        fill(j, 0, inHold0);
        fill(j, 1, inHold1);
        j.replay(0, 99);
        return j;
    }

    private static void fill(ShipJournal j, int hold, int tons) {
        for (int left = tons; left > 0; left -= MOST_AMOUNT) {
            j.write(0, hold, 0, Math.min(left, MOST_AMOUNT));
        }
    }

    static void put(ShipJournal j, String text) {
        j.clearText();
        for (int i = 0; i < text.length(); i++) {
            j.append(text.charAt(i));
        }
    }

    static int carry(ShipJournal j, String text) {
        put(j, text);
        return j.carryOut();
    }

    static void valuesAre(Check check, String what, ShipJournal j, int... values) {
        for (int i = 0; i < values.length; i++) {
            int v = i;
            check.same(what + ", value " + v, values[v], () -> j.value(v));
        }
    }

    static void holdsAre(Check check, String what, ShipJournal j, int ship, int... tons) {
        for (int hold = 0; hold < tons.length; hold++) {
            int h = hold;
            check.same(what + ", hold " + h, tons[h], () -> j.hold(ship, h));
        }
    }

    /** What order() tells of this order, from its kind on. */
    static void orderIs(Check check, String what, ShipJournal j, int position, int... values) {
        for (int i = 0; i < values.length; i++) {
            int w = i;
            check.same(what + ", order(" + position + ", " + w + ")", values[w], () -> j.order(position, w));
        }
    }

    /** What ship() tells of this ship, from its position on. */
    static void shipIs(Check check, String what, ShipJournal j, int ship, int... values) {
        for (int i = 0; i < values.length; i++) {
            int w = i;
            check.same(what + ", ship(" + ship + ", " + w + ")", values[w], () -> j.ship(ship, w));
        }
    }

    /**
     * A ring of 32 places, all taken by orders that differ; 10, 20, .. 80 tons in the holds of ship 0 and in both
     * snapshots; ship 1 has replayed 20 of the orders.
     */
    static ShipJournal rich() {
        ShipJournal j = ofPlaces(32);
        for (int i = 0; i < 8; i++) {
            j.write(0, i, 0, 10 * (i + 1));
        }
        free(j, 8);
        for (int i = 0; i < 32; i++) {
            j.write(i % 5, i % 8, (i + 3) % 8, 60 + i);
        }
        j.replay(1, 20);
        j.spoil(31, 0);
        j.spoil(39, 1);
        return j;
    }

    /** The digest as the document spells it out, from the answers of the other calls. */
    static long digestDue(ShipJournal j, int textLength, int savedStates) {
        StringBuilder values = new StringBuilder();
        values.append(textLength);
        for (int what = 0; what <= 6; what++) {
            values.append(' ').append(j.value(what));
        }
        for (int position = j.value(1); position < j.value(2); position++) {
            for (int what = 0; what <= 5; what++) {
                values.append(' ').append(j.order(position, what));
            }
        }
        for (int ship = 0; ship <= 1; ship++) {
            for (int what = 0; what <= 5; what++) {
                values.append(' ').append(j.ship(ship, what));
            }
            for (int hold = 0; hold <= 7; hold++) {
                values.append(' ').append(j.hold(ship, hold));
            }
        }
        values.append(' ').append(j.ahead(0)).append(' ').append(j.ahead(1)).append(' ').append(j.agree());
        for (int hold = 0; hold <= 7; hold++) {
            values.append(' ').append(j.tonsAt(j.value(2), hold));
        }
        values.append(' ').append(savedStates);
        long h = 3797;
        for (String value : values.toString().split(" ")) {
            h = 31 * h + Long.parseLong(value);
        }
        return h;
    }
}
