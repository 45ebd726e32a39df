/** Journals in the states that tests start from. */
final class Journals {
    static final int[] NO_SHIPS = {-1, 2, 3, Integer.MIN_VALUE, Integer.MAX_VALUE};
    static final int[] NO_HOLDS = {-1, 8, Integer.MIN_VALUE, Integer.MAX_VALUE};
    static final int MOST_AMOUNT = 99;

    private Journals() {
    }

    static ShipJournal ofPlaces(int places) {
        ShipJournal j = new ShipJournal();
        j.begin(places);
        return j;
    }

    /** A ring of so many places, all taken. */
    static ShipJournal full(int places) {
        ShipJournal j = ofPlaces(places);
        loads(j, places);
        return j;
    }

    /** A new journal with loads of 1, 2, 3, .. tons into the hold 0. */
    static ShipJournal withLoads(int count) {
        ShipJournal j = new ShipJournal();
        for (int i = 0; i < count; i++) {
            j.write(0, 0, 0, i + 1);
        }
        return j;
    }

    /** Loads of 10 tons into one hold after the other. */
    static void loads(ShipJournal j, int count) {
        for (int i = 0; i < count; i++) {
            j.write(0, i % 8, 0, 10);
        }
    }

    static void spoilBoth(ShipJournal j, int position) {
        j.spoil(position, 0);
        j.spoil(position, 1);
    }

    /** Both ships replay so many orders and take snapshots: orders before both are not kept any more. */
    static void free(ShipJournal j, int orders) {
        for (int ship = 0; ship < 2; ship++) {
            j.replay(ship, orders);
            j.snapshot(ship);
        }
    }

    /** A ring of 32 places whose ship 0 has these tons in the holds 0 and 1; 22 orders at most are written. */
    static ShipJournal withTons(int inHold0, int inHold1) {
        ShipJournal j = ofPlaces(32);
        fill(j, 0, inHold0);
        fill(j, 1, inHold1);
        j.replay(0, 99);
        return j;
    }

    private static void fill(ShipJournal j, int hold, int tons) {
        for (int left = tons; left > 0; left -= MOST_AMOUNT) {
            j.write(0, hold, 0, Math.min(left, MOST_AMOUNT));
        }
    }

    static void put(ShipJournal j, String text) {
        j.clearText();
        for (int i = 0; i < text.length(); i++) {
            j.append(text.charAt(i));
        }
    }

    static int carry(ShipJournal j, String text) {
        put(j, text);
        return j.carryOut();
    }

    static void valuesAre(Check check, String what, ShipJournal j, int... values) {
        for (int i = 0; i < values.length; i++) {
            int v = i;
            check.same(what + ", value " + v, values[v], () -> j.value(v));
        }
    }

    static void holdsAre(Check check, String what, ShipJournal j, int ship, int... tons) {
        for (int hold = 0; hold < tons.length; hold++) {
            int h = hold;
            check.same(what + ", hold " + h, tons[h], () -> j.hold(ship, h));
        }
    }

    /** What order() tells of this order, from its kind on. */
    static void orderIs(Check check, String what, ShipJournal j, int position, int... values) {
        for (int i = 0; i < values.length; i++) {
            int w = i;
            check.same(what + ", order(" + position + ", " + w + ")", values[w], () -> j.order(position, w));
        }
    }

    /** What ship() tells of this ship, from its position on. */
    static void shipIs(Check check, String what, ShipJournal j, int ship, int... values) {
        for (int i = 0; i < values.length; i++) {
            int w = i;
            check.same(what + ", ship(" + ship + ", " + w + ")", values[w], () -> j.ship(ship, w));
        }
    }

    /** The digest as the document spells it out, from the answers of the other calls. */
    static long digestDue(ShipJournal j, int textLength, int savedStates) {
        StringBuilder values = new StringBuilder();
        values.append(textLength);
        for (int what = 0; what <= 6; what++) {
            values.append(' ').append(j.value(what));
        }
        for (int position = j.value(1); position < j.value(2); position++) {
            for (int what = 0; what <= 5; what++) {
                values.append(' ').append(j.order(position, what));
            }
        }
        for (int ship = 0; ship <= 1; ship++) {
            for (int what = 0; what <= 5; what++) {
                values.append(' ').append(j.ship(ship, what));
            }
            for (int hold = 0; hold <= 7; hold++) {
                values.append(' ').append(j.hold(ship, hold));
            }
        }
        values.append(' ').append(j.ahead(0)).append(' ').append(j.ahead(1)).append(' ').append(j.agree());
        for (int hold = 0; hold <= 7; hold++) {
            values.append(' ').append(j.tonsAt(j.value(2), hold));
        }
        values.append(' ').append(savedStates);
        long h = 3797;
        for (String value : values.toString().split(" ")) {
            h = 31 * h + Long.parseLong(value);
        }
        return h;
    }
}
