import java.util.ArrayList;
import java.util.List;
import java.util.regex.Matcher;
import java.util.regex.Pattern;

/**
 * The document once more, written for plainness alone: every order is kept for good, a ship's holds are
 * worked out anew from position 0 at each question, and a saved state is a whole copy. The random runs
 * hold ShipJournal against it.
 */
final class Model {
    private static final Pattern COMMAND = Pattern.compile(
            "[lu][0-7],[0-9]{1,2};|[msv][0-7][0-7],[0-9]{1,2};|r[01][0-9]{1,2};|[tc][01];");
    private static final Pattern TEXT = Pattern.compile("(?:" + COMMAND.pattern() + ")*");
    private static final Pattern OPEN_NUMBER = Pattern.compile("(?s).*(?:,|r[01])([0-9]{1,2})");
    private static final String WRITES = "lumsv";

    private record Order(int kind, int a, int b, int amount, boolean[] spoiled) {
        Order copy() {
            return new Order(kind, a, b, amount, spoiled.clone());
        }

        int spoiledCount() {
            return (spoiled[0] ? 1 : 0) + (spoiled[1] ? 1 : 0);
        }
    }

    private static final class World {
        int places = 8;
        int olderEnd = 0;
        int repaired = 0;
        List<Order> orders = new ArrayList<>();
        int[] position = new int[2];
        int[] snapshot = new int[2];
        boolean[] up = {true, true};
        int[] replayed = new int[2];
        int[] crashes = new int[2];

        World copy() {
            World w = new World();
            w.places = places;
            w.olderEnd = olderEnd;
            w.repaired = repaired;
            for (Order o : orders) {
                w.orders.add(o.copy());
            }
            w.position = position.clone();
            w.snapshot = snapshot.clone();
            w.up = up.clone();
            w.replayed = replayed.clone();
            w.crashes = crashes.clone();
            return w;
        }
    }

    private World w = new World();
    private final List<World> saved = new ArrayList<>();
    private String text = "";

    private void save() {
        saved.add(w.copy());
        if (saved.size() > 4) {
            saved.remove(0);
        }
    }

    private static int[] tonsBehind(List<Order> orders, int position) {
        int[] t = new int[8];
        for (Order o : orders.subList(0, position)) {
            int n = o.amount;
            switch (o.kind) {
                case 0 -> t[o.a] = t[o.a] + n > 999 ? 999 : t[o.a] + n;
                case 1 -> t[o.a] = t[o.a] < n ? 0 : t[o.a] - n;
                case 2 -> {
                    while (n > 0 && t[o.a] > 0 && t[o.b] < 999) {
                        t[o.a]--;
                        t[o.b]++;
                        n--;
                    }
                }
                case 3 -> {
                    int x = t[o.a];
                    t[o.a] = t[o.b];
                    t[o.b] = x;
                }
                default -> {
                    int half = (t[o.a] + t[o.b]) / 2;
                    int left = (t[o.a] + t[o.b]) % 2;
                    t[o.a] = half + left;
                    t[o.b] = half;
                }
            }
        }
        return t;
    }

    private boolean kept(int position) {
        return position >= w.olderEnd && position < w.orders.size();
    }

    private boolean readable(int position) {
        return w.orders.get(position).spoiledCount() < 2;
    }

    private static void in(int x, int low, int high) {
        if (x < low || x > high) {
            throw new IllegalArgumentException();
        }
    }

    private static void index(int x, int high) {
        if (x < 0 || x > high) {
            throw new IndexOutOfBoundsException();
        }
    }

    private void keptIndex(int position) {
        if (!kept(position)) {
            throw new IndexOutOfBoundsException();
        }
    }

    int begin(int places) {
        in(places, 4, 32);
        save();
        int before = value(3);
        w = new World();
        w.places = places;
        return before;
    }

    int write(int kind, int a, int b, int amount) {
        checkWrite(kind, a, b, amount);
        save();
        return doWrite(kind, a, b, amount);
    }

    private void checkWrite(int kind, int a, int b, int amount) {
        in(kind, 0, 4);
        in(a, 0, 7);
        in(b, 0, 7);
        in(amount, 1, 99);
        if (kind > 1 && a == b) {
            throw new IllegalArgumentException();
        }
        if (value(3) == w.places) {
            throw new IllegalStateException();
        }
    }

    private int doWrite(int kind, int a, int b, int amount) {
        w.orders.add(new Order(kind, a, kind < 2 ? 0 : b, amount, new boolean[2]));
        return w.orders.size() - 1;
    }

    int spoil(int position, int copy) {
        keptIndex(position);
        in(copy, 0, 1);
        save();
        w.orders.get(position).spoiled[copy] = true;
        return w.orders.get(position).spoiledCount();
    }

    int repair() {
        save();
        int count = 0;
        for (int p = w.olderEnd; p < w.orders.size(); p++) {
            boolean[] s = w.orders.get(p).spoiled;
            boolean known = false;
            for (int ship = 0; ship < 2; ship++) {
                known |= w.up[ship] && w.position[ship] > p;
            }
            boolean[] was = s.clone();
            for (int c = 0; c < 2; c++) {
                if (was[c] && (!was[1 - c] || known)) {
                    s[c] = false;
                    count++;
                }
            }
        }
        w.repaired += count;
        return count;
    }

    int replay(int ship, int orders) {
        index(ship, 1);
        in(orders, 1, 99);
        save();
        return doReplay(ship, orders);
    }

    private int doReplay(int ship, int orders) {
        int n = Math.min(orders, ahead(ship));
        w.position[ship] += n;
        w.replayed[ship] += n;
        return n;
    }

    int snapshot(int ship) {
        checkSnapshot(ship);
        save();
        return doSnapshot(ship);
    }

    private void checkSnapshot(int ship) {
        index(ship, 1);
        if (!w.up[ship]) {
            throw new IllegalStateException();
        }
    }

    private int doSnapshot(int ship) {
        w.snapshot[ship] = w.position[ship];
        int before = w.olderEnd;
        w.olderEnd = Math.min(w.snapshot[0], w.snapshot[1]);
        return w.olderEnd - before;
    }

    int crash(int ship) {
        index(ship, 1);
        save();
        return doCrash(ship);
    }

    private int doCrash(int ship) {
        int fall = w.position[ship] - w.snapshot[ship];
        w.position[ship] -= fall;
        w.crashes[ship]++;
        return fall;
    }

    int link(int ship, boolean up) {
        index(ship, 1);
        if (w.up[ship] == up) {
            throw new IllegalStateException();
        }
        save();
        w.up[ship] = up;
        return (w.up[0] ? 1 : 0) + (w.up[1] ? 1 : 0);
    }

    int order(int position, int what) {
        keptIndex(position);
        in(what, 0, 5);
        Order o = w.orders.get(position);
        int copies = (o.spoiled[0] ? 1 : 0) | (o.spoiled[1] ? 2 : 0);
        int ships = (w.position[0] > position ? 1 : 0) | (w.position[1] > position ? 2 : 0);
        return new int[] {o.kind, o.a, o.b, o.amount, copies, ships}[what];
    }

    int ship(int ship, int what) {
        index(ship, 1);
        in(what, 0, 5);
        int sum = 0;
        for (int tons : tonsBehind(w.orders, w.position[ship])) {
            sum += tons;
        }
        return new int[] {w.position[ship], w.snapshot[ship], w.up[ship] ? 1 : 0, sum, w.replayed[ship],
            w.crashes[ship]}[what];
    }

    int hold(int ship, int hold) {
        index(ship, 1);
        index(hold, 7);
        return tonsBehind(w.orders, w.position[ship])[hold];
    }

    int value(int what) {
        in(what, 0, 6);
        int copies = 0;
        int unreadable = 0;
        for (Order o : w.orders.subList(w.olderEnd, w.orders.size())) {
            copies += o.spoiledCount();
            unreadable += o.spoiledCount() == 2 ? 1 : 0;
        }
        int end = w.orders.size();
        return new int[] {w.places, w.olderEnd, end, end - w.olderEnd, copies, unreadable, w.repaired}[what];
    }

    int ahead(int ship) {
        index(ship, 1);
        return w.up[ship] ? stop(ship) - w.position[ship] : 0;
    }

    int stop(int ship) {
        index(ship, 1);
        int p = w.position[ship];
        while (p < w.orders.size() && readable(p)) {
            p++;
        }
        return p;
    }

    int tonsAt(int position, int hold) {
        index(hold, 7);
        int start = Math.min(w.snapshot[0], w.snapshot[1]);
        if (position < start || position > w.orders.size()) {
            return -1;
        }
        for (int p = start; p < position; p++) {
            if (!readable(p)) {
                return -1;
            }
        }
        return tonsBehind(w.orders, position)[hold];
    }

    /** Holds come from the orders alone, so ships that can be compared always agree. */
    int agree() {
        int high = Math.max(w.position[0], w.position[1]);
        for (int p = Math.min(w.position[0], w.position[1]); p < high; p++) {
            if (!readable(p)) {
                return -1;
            }
        }
        return 1;
    }

    int roomBy(int ship) {
        index(ship, 1);
        return w.places - w.orders.size() + Math.min(w.position[ship], w.snapshot[1 - ship]);
    }

    int slower() {
        return w.snapshot[0] == w.snapshot[1] ? 2 : w.snapshot[0] < w.snapshot[1] ? 0 : 1;
    }

    double fullness() {
        return (double) (w.orders.size() - w.olderEnd) / (double) w.places;
    }

    int append(int value) {
        in(value, 0, 127);
        if (text.length() == 100) {
            throw new IllegalStateException();
        }
        text += (char) value;
        return text.length();
    }

    int clearText() {
        int length = text.length();
        text = "";
        return length;
    }

    int carryOut() {
        int error = syntaxError();
        if (error >= 0) {
            return -10 - error;
        }
        save();
        int count = 0;
        try {
            Matcher commands = COMMAND.matcher(text);
            while (commands.find()) {
                obey(commands.group());
                count++;
            }
        } catch (IllegalArgumentException | IllegalStateException e) {
            return count;
        }
        return count;
    }

    private void obey(String command) {
        int kind = WRITES.indexOf(command.charAt(0));
        int a = command.charAt(1) - '0';
        String rest = command.substring(2, command.length() - 1);
        if (kind >= 0) {
            int comma = rest.indexOf(',');
            int b = comma == 0 ? 0 : rest.charAt(0) - '0';
            int amount = Integer.parseInt(rest.substring(comma + 1));
            checkWrite(kind, a, b, amount);
            doWrite(kind, a, b, amount);
        } else if (command.charAt(0) == 'r') {
            doReplay(a, Integer.parseInt(rest));
        } else if (command.charAt(0) == 't') {
            checkSnapshot(a);
            doSnapshot(a);
        } else {
            doCrash(a);
        }
    }

    /** Tries each beginning of the text: could it still become a text, and is its last number in range? */
    private int syntaxError() {
        for (int i = 0; i <= text.length(); i++) {
            boolean atEnd = i == text.length();
            boolean digit = !atEnd && text.charAt(i) >= '0' && text.charAt(i) <= '9';
            Matcher number = OPEN_NUMBER.matcher(text.substring(0, i));
            if (!digit && number.matches() && Integer.parseInt(number.group(1)) == 0) {
                return number.start(1);
            }
            if (!atEnd) {
                Matcher m = TEXT.matcher(text.substring(0, i + 1));
                if (!m.matches() && !m.hitEnd()) {
                    return i;
                }
            }
        }
        return TEXT.matcher(text).matches() ? -1 : text.length();
    }

    int undo() {
        if (saved.isEmpty()) {
            throw new IllegalStateException();
        }
        w = saved.remove(saved.size() - 1);
        return saved.size();
    }

    long digest() {
        List<Integer> values = new ArrayList<>();
        values.add(text.length());
        for (int what = 0; what <= 6; what++) {
            values.add(value(what));
        }
        for (int p = w.olderEnd; p < w.orders.size(); p++) {
            for (int what = 0; what <= 5; what++) {
                values.add(order(p, what));
            }
        }
        for (int ship = 0; ship < 2; ship++) {
            for (int what = 0; what <= 5; what++) {
                values.add(ship(ship, what));
            }
            for (int hold = 0; hold < 8; hold++) {
                values.add(hold(ship, hold));
            }
        }
        values.add(ahead(0));
        values.add(ahead(1));
        values.add(agree());
        for (int hold = 0; hold < 8; hold++) {
            values.add(tonsAt(w.orders.size(), hold));
        }
        values.add(saved.size());
        long h = 3797;
        for (int v : values) {
            h = 31 * h + v;
        }
        return h;
    }
}
