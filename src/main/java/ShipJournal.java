/**
 * A ring of orders for two ships at sea. What each call promises stands in the project's document;
 * comments here tell only why things are as they are.
 */
public final class ShipJournal {
    public static final int NONE = -1;

    private static final int SHIPS = 2;
    private static final int HOLDS = 8;
    private static final int MOST_TONS = 999;
    private static final int COPIES = 2;
    private static final int BOTH_COPIES = 3;
    private static final int MOST_NUMBER = 99;

    private static final int LEAST_PLACES = 4;
    private static final int FIRST_PLACES = 8;
    private static final int MOST_PLACES = 32;

    private static final int LOAD = 0;
    private static final int UNLOAD = 1;
    private static final int MOVE = 2;
    private static final int SWAP = 3;
    private static final int LEVEL = 4;

    private static final int ORDER_VALUES = 6;
    private static final int SHIP_VALUES = 6;
    private static final int JOURNAL_VALUES = 7;

    private static final int MOST_BYTES = 100;
    private static final int MOST_BYTE = 127;
    private static final int MOST_DIGITS = 2;
    private static final int SYNTAX_ERROR = -10;

    private static final int MOST_SAVED = 4;
    private static final int BOTH_ALIKE = 2;
    private static final long FIRST_HASH = 3797;

    private final State now = new State();
    private final State[] saved = new State[MOST_SAVED];
    private int savedCount = 0;
    private final Text text = new Text();
    /** The holds of a forecast: one row for all calls, so that no call makes an array. */
    private final int[] forecast = new int[HOLDS];

    public ShipJournal() {
        for (int i = 0; i < MOST_SAVED; i++) {
            saved[i] = new State();
        }
    }

    // ---- ring

    public int begin(int places) throws IllegalArgumentException {
        if (places < LEAST_PLACES || places > MOST_PLACES) {
            throw new IllegalArgumentException("places out of range");
        }
        saveState();
        int kept = now.ring.kept();
        now.restart(places);
        return kept;
    }

    public int write(int kind, int a, int b, int amount)
            throws IllegalArgumentException, IllegalStateException {
        if (!isOrder(kind, a, b, amount)) {
            throw new IllegalArgumentException("no such order");
        }
        if (now.ring.isFull()) {
            throw new IllegalStateException("the ring is full");
        }
        saveState();
        return now.ring.add(kind, a, b, amount);
    }

    public int spoil(int position, int copy)
            throws IndexOutOfBoundsException, IllegalArgumentException {
        requireKept(position);
        if (copy < 0 || copy >= COPIES) {
            throw new IllegalArgumentException("no such copy");
        }
        saveState();
        return now.ring.spoilCopy(position, copy);
    }

    public int repair() {
        saveState();
        return now.repairCopies();
    }

    // ---- ships

    public int replay(int ship, int orders)
            throws IndexOutOfBoundsException, IllegalArgumentException {
        requireShip(ship);
        if (orders < 1 || orders > MOST_NUMBER) {
            throw new IllegalArgumentException("orders out of range");
        }
        saveState();
        return now.replayOrders(now.shipOf(ship), orders);
    }

    public int snapshot(int ship) throws IndexOutOfBoundsException, IllegalStateException {
        requireShip(ship);
        if (!now.shipOf(ship).linkUp) {
            throw new IllegalStateException("the link is lost");
        }
        saveState();
        return now.takeSnapshot(now.shipOf(ship));
    }

    public int crash(int ship) throws IndexOutOfBoundsException {
        requireShip(ship);
        saveState();
        return now.shipOf(ship).fallBack();
    }

    public int link(int ship, boolean up)
            throws IndexOutOfBoundsException, IllegalStateException {
        requireShip(ship);
        if (now.shipOf(ship).linkUp == up) {
            throw new IllegalStateException("the link is so already");
        }
        saveState();
        now.shipOf(ship).linkUp = up;
        return now.linksUp();
    }

    // ---- values

    public int order(int position, int what)
            throws IndexOutOfBoundsException, IllegalArgumentException {
        requireKept(position);
        switch (what) {
            case 0: return now.ring.kindAt(position);
            case 1: return now.ring.holdAAt(position);
            case 2: return now.ring.holdBAt(position);
            case 3: return now.ring.amountAt(position);
            case 4: return now.ring.spoiledAt(position);
            case 5: return now.replayedBy(position);
            default: throw new IllegalArgumentException("no such value of an order");
        }
    }

    public int ship(int ship, int what)
            throws IndexOutOfBoundsException, IllegalArgumentException {
        requireShip(ship);
        Ship asked = now.shipOf(ship);
        switch (what) {
            case 0: return asked.position;
            case 1: return asked.snapshotPosition;
            case 2: return asked.linkUp ? 1 : 0;
            case 3: return asked.sumOfTons();
            case 4: return asked.replayed;
            case 5: return asked.crashes;
            default: throw new IllegalArgumentException("no such value of a ship");
        }
    }

    public int hold(int ship, int hold) throws IndexOutOfBoundsException {
        requireShip(ship);
        requireHold(hold);
        return now.shipOf(ship).holds[hold];
    }

    public int value(int what) throws IllegalArgumentException {
        switch (what) {
            case 0: return now.ring.places;
            case 1: return now.ring.olderEnd;
            case 2: return now.ring.newerEnd;
            case 3: return now.ring.kept();
            case 4: return now.ring.spoiledCopies();
            case 5: return now.ring.unreadableOrders();
            case 6: return now.repaired;
            default: throw new IllegalArgumentException("no such value");
        }
    }

    // ---- what if

    public int ahead(int ship) throws IndexOutOfBoundsException {
        requireShip(ship);
        Ship asked = now.shipOf(ship);
        return asked.linkUp ? now.ring.firstUnreadable(asked.position) - asked.position : 0;
    }

    public int stop(int ship) throws IndexOutOfBoundsException {
        requireShip(ship);
        return now.ring.firstUnreadable(now.shipOf(ship).position);
    }

    public int tonsAt(int position, int hold) throws IndexOutOfBoundsException {
        requireHold(hold);
        Ship slow = now.slowerSnapshot();
        if (position < slow.snapshotPosition || position > now.ring.newerEnd) {
            return NONE;
        }
        System.arraycopy(slow.snapshotHolds, 0, forecast, 0, HOLDS);
        boolean readable = now.ring.replayOn(forecast, slow.snapshotPosition, position);
        return readable ? forecast[hold] : NONE;
    }

    public int agree() {
        Ship behind = now.shipBehind();
        Ship other = now.otherThan(behind);
        System.arraycopy(behind.holds, 0, forecast, 0, HOLDS);
        if (!now.ring.replayOn(forecast, behind.position, other.position)) {
            return NONE;
        }
        return other.hasHolds(forecast) ? 1 : 0;
    }

    public int roomBy(int ship) throws IndexOutOfBoundsException {
        requireShip(ship);
        Ship asked = now.shipOf(ship);
        int end = Math.min(asked.position, now.otherThan(asked).snapshotPosition);
        return now.ring.places - (now.ring.newerEnd - end);
    }

    public int slower() {
        if (now.first.snapshotPosition == now.second.snapshotPosition) {
            return BOTH_ALIKE;
        }
        return now.first.snapshotPosition < now.second.snapshotPosition ? 0 : 1;
    }

    public double fullness() {
        return (double) now.ring.kept() / (double) now.ring.places;
    }

    // ---- text

    public int append(int value) throws IllegalArgumentException, IllegalStateException {
        if (value < 0 || value > MOST_BYTE) {
            throw new IllegalArgumentException("no byte of a text");
        }
        if (text.isFull()) {
            throw new IllegalStateException("the text is full");
        }
        return text.add(value);
    }

    public int clearText() {
        return text.clear();
    }

    public int carryOut() {
        int error = text.findSyntaxError();
        if (error != NONE) {
            return SYNTAX_ERROR - error;
        }
        saveState();
        text.goToStart();
        for (int done = 0; done < MOST_BYTES; done++) {
            if (text.isAtEnd() || !text.readCommand() || !obeyCommand()) {
                return done;
            }
        }
        return MOST_BYTES;
    }

    // ---- state

    public int undo() throws IllegalStateException {
        if (savedCount < 1) {
            throw new IllegalStateException("no saved state");
        }
        savedCount--;
        now.copyFrom(saved[savedCount]);
        return savedCount;
    }

    public long digest() {
        long hash = mix(FIRST_HASH, text.length);
        for (int what = 0; what < JOURNAL_VALUES; what++) {
            hash = mix(hash, value(what));
        }
        hash = mixOrders(hash);
        hash = mixShips(hash);
        hash = mixForecasts(hash);
        return mix(hash, savedCount);
    }

    private static long mix(long hash, long value) {
        return 31 * hash + value;
    }

    private long mixOrders(long start) {
        long hash = start;
        for (int position = now.ring.olderEnd; position < now.ring.newerEnd; position++) {
            for (int what = 0; what < ORDER_VALUES; what++) {
                hash = mix(hash, order(position, what));
            }
        }
        return hash;
    }

    private long mixShips(long start) {
        long hash = start;
        for (int ship = 0; ship < SHIPS; ship++) {
            for (int what = 0; what < SHIP_VALUES; what++) {
                hash = mix(hash, ship(ship, what));
            }
            for (int hold = 0; hold < HOLDS; hold++) {
                hash = mix(hash, hold(ship, hold));
            }
        }
        return hash;
    }

    private long mixForecasts(long start) {
        long hash = start;
        for (int ship = 0; ship < SHIPS; ship++) {
            hash = mix(hash, ahead(ship));
        }
        hash = mix(hash, agree());
        for (int hold = 0; hold < HOLDS; hold++) {
            hash = mix(hash, tonsAt(now.ring.newerEnd, hold));
        }
        return hash;
    }

    private static boolean isOrder(int kind, int a, int b, int amount) {
        return kind >= LOAD && kind <= LEVEL && isHold(a) && isHold(b)
                && amount >= 1 && amount <= MOST_NUMBER
                && !(usesHoldB(kind) && a == b);
    }

    private static boolean usesHoldB(int kind) {
        return kind >= MOVE;
    }

    private static boolean isHold(int hold) {
        return hold >= 0 && hold < HOLDS;
    }

    private static void requireHold(int hold) {
        if (!isHold(hold)) {
            throw new IndexOutOfBoundsException("no such hold");
        }
    }

    private static void requireShip(int ship) {
        if (ship < 0 || ship >= SHIPS) {
            throw new IndexOutOfBoundsException("no such ship");
        }
    }

    private void requireKept(int position) {
        if (!now.ring.isKept(position)) {
            throw new IndexOutOfBoundsException("no such order is kept");
        }
    }

    /** Saves the present state; the row of the oldest one is used again when all rows are taken. */
    private void saveState() {
        if (savedCount >= MOST_SAVED) {
            State oldest = saved[0];
            for (int i = 1; i < MOST_SAVED; i++) {
                saved[i - 1] = saved[i];
            }
            saved[MOST_SAVED - 1] = oldest;
            savedCount = MOST_SAVED - 1;
        }
        saved[savedCount].copyFrom(now);
        savedCount++;
    }

    /** Carries out the command that was read last; false, and nothing done, if its call would throw. */
    private boolean obeyCommand() {
        switch (text.letter) {
            case 'l': return obeyWrite(LOAD);
            case 'u': return obeyWrite(UNLOAD);
            case 'm': return obeyWrite(MOVE);
            case 's': return obeyWrite(SWAP);
            case 'v': return obeyWrite(LEVEL);
            case 'r':
                now.replayOrders(now.shipOf(text.first), text.number);
                return true;
            case 't': return obeySnapshot();
            case 'c':
                now.shipOf(text.first).fallBack();
                return true;
            default: return false;
        }
    }

    private boolean obeyWrite(int kind) {
        if (!isOrder(kind, text.first, text.second, text.number) || now.ring.isFull()) {
            return false;
        }
        now.ring.add(kind, text.first, text.second, text.number);
        return true;
    }

    private boolean obeySnapshot() {
        Ship ship = now.shipOf(text.first);
        if (!ship.linkUp) {
            return false;
        }
        now.takeSnapshot(ship);
        return true;
    }

    /** The orders that are kept. The rows have room for the largest ring, whatever the places are. */
    private static final class Ring {
        int places;
        int olderEnd;
        int newerEnd;
        private final int[] kinds = new int[MOST_PLACES];
        private final int[] holdsA = new int[MOST_PLACES];
        private final int[] holdsB = new int[MOST_PLACES];
        private final int[] amounts = new int[MOST_PLACES];
        /** The set of the spoiled copies of each order: bit c for the copy c. */
        private final int[] spoiled = new int[MOST_PLACES];

        /** MOST_PLACES is a power of two: the mask gives each kept order a slot of its own. */
        private static int slot(int position) {
            return position & (MOST_PLACES - 1);
        }

        void restart(int newPlaces) {
            places = newPlaces;
            olderEnd = 0;
            newerEnd = 0;
        }

        void copyFrom(Ring other) {
            places = other.places;
            olderEnd = other.olderEnd;
            newerEnd = other.newerEnd;
            System.arraycopy(other.kinds, 0, kinds, 0, MOST_PLACES);
            System.arraycopy(other.holdsA, 0, holdsA, 0, MOST_PLACES);
            System.arraycopy(other.holdsB, 0, holdsB, 0, MOST_PLACES);
            System.arraycopy(other.amounts, 0, amounts, 0, MOST_PLACES);
            System.arraycopy(other.spoiled, 0, spoiled, 0, MOST_PLACES);
        }

        int kept() {
            return newerEnd - olderEnd;
        }

        boolean isFull() {
            return kept() >= places;
        }

        boolean isKept(int position) {
            return position >= olderEnd && position < newerEnd;
        }

        int add(int kind, int a, int b, int amount) {
            int position = newerEnd;
            int slot = slot(position);
            kinds[slot] = kind;
            holdsA[slot] = a;
            holdsB[slot] = usesHoldB(kind) ? b : 0;
            amounts[slot] = amount;
            spoiled[slot] = 0;
            newerEnd++;
            return position;
        }

        int kindAt(int position) {
            return kinds[slot(position)];
        }

        int holdAAt(int position) {
            return holdsA[slot(position)];
        }

        int holdBAt(int position) {
            return holdsB[slot(position)];
        }

        int amountAt(int position) {
            return amounts[slot(position)];
        }

        int spoiledAt(int position) {
            return spoiled[slot(position)];
        }

        boolean canBeRead(int position) {
            return spoiledAt(position) != BOTH_COPIES;
        }

        int spoilCopy(int position, int copy) {
            int slot = slot(position);
            spoiled[slot] |= 1 << copy;
            return Integer.bitCount(spoiled[slot]);
        }

        int repairOrder(int position) {
            int slot = slot(position);
            int copies = Integer.bitCount(spoiled[slot]);
            spoiled[slot] = 0;
            return copies;
        }

        int spoiledCopies() {
            int copies = 0;
            for (int position = olderEnd; position < newerEnd; position++) {
                copies += Integer.bitCount(spoiledAt(position));
            }
            return copies;
        }

        int unreadableOrders() {
            int orders = 0;
            for (int position = olderEnd; position < newerEnd; position++) {
                orders += canBeRead(position) ? 0 : 1;
            }
            return orders;
        }

        /** The first position from this one on whose order is unwritten or cannot be read. */
        int firstUnreadable(int from) {
            for (int position = from; position < newerEnd; position++) {
                if (!canBeRead(position)) {
                    return position;
                }
            }
            return newerEnd;
        }

        /** Replays kept orders on these holds; false if one of them cannot be read. */
        boolean replayOn(int[] holds, int from, int to) {
            for (int position = from; position < to; position++) {
                if (!canBeRead(position)) {
                    return false;
                }
                replayOne(holds, position);
            }
            return true;
        }

        void replayOne(int[] holds, int position) {
            int slot = slot(position);
            int a = holdsA[slot];
            int b = holdsB[slot];
            int amount = amounts[slot];
            switch (kinds[slot]) {
                case LOAD:
                    holds[a] = Math.min(holds[a] + amount, MOST_TONS);
                    break;
                case UNLOAD:
                    holds[a] = Math.max(holds[a] - amount, 0);
                    break;
                case MOVE:
                    moveTons(holds, a, b, amount);
                    break;
                case SWAP:
                    swapTons(holds, a, b);
                    break;
                default:
                    levelTons(holds, a, b);
                    break;
            }
        }

        private static void moveTons(int[] holds, int a, int b, int amount) {
            int tons = Math.min(amount, Math.min(holds[a], MOST_TONS - holds[b]));
            holds[a] -= tons;
            holds[b] += tons;
        }

        private static void swapTons(int[] holds, int a, int b) {
            int tons = holds[a];
            holds[a] = holds[b];
            holds[b] = tons;
        }

        private static void levelTons(int[] holds, int a, int b) {
            int both = holds[a] + holds[b];
            holds[b] = both / 2;
            holds[a] = both - holds[b];
        }
    }

    private static final class Ship {
        int position;
        int snapshotPosition;
        boolean linkUp;
        int replayed;
        int crashes;
        final int[] holds = new int[HOLDS];
        final int[] snapshotHolds = new int[HOLDS];

        void restart() {
            position = 0;
            snapshotPosition = 0;
            linkUp = true;
            replayed = 0;
            crashes = 0;
            for (int hold = 0; hold < HOLDS; hold++) {
                holds[hold] = 0;
                snapshotHolds[hold] = 0;
            }
        }

        void copyFrom(Ship other) {
            position = other.position;
            snapshotPosition = other.snapshotPosition;
            linkUp = other.linkUp;
            replayed = other.replayed;
            crashes = other.crashes;
            System.arraycopy(other.holds, 0, holds, 0, HOLDS);
            System.arraycopy(other.snapshotHolds, 0, snapshotHolds, 0, HOLDS);
        }

        void keepSnapshot() {
            snapshotPosition = position;
            System.arraycopy(holds, 0, snapshotHolds, 0, HOLDS);
        }

        /** Falls back to the snapshot, as a crash asks for. */
        int fallBack() {
            int fall = position - snapshotPosition;
            position = snapshotPosition;
            System.arraycopy(snapshotHolds, 0, holds, 0, HOLDS);
            crashes++;
            return fall;
        }

        int sumOfTons() {
            int sum = 0;
            for (int hold = 0; hold < HOLDS; hold++) {
                sum += holds[hold];
            }
            return sum;
        }

        boolean hasHolds(int[] others) {
            for (int hold = 0; hold < HOLDS; hold++) {
                if (holds[hold] != others[hold]) {
                    return false;
                }
            }
            return true;
        }
    }

    /** All that undo brings back: everything except the text. */
    private static final class State {
        final Ring ring = new Ring();
        final Ship first = new Ship();
        final Ship second = new Ship();
        int repaired;

        State() {
            restart(FIRST_PLACES);
        }

        void restart(int places) {
            ring.restart(places);
            first.restart();
            second.restart();
            repaired = 0;
        }

        void copyFrom(State other) {
            ring.copyFrom(other.ring);
            first.copyFrom(other.first);
            second.copyFrom(other.second);
            repaired = other.repaired;
        }

        Ship shipOf(int number) {
            return number == 0 ? first : second;
        }

        Ship otherThan(Ship ship) {
            return ship == first ? second : first;
        }

        Ship shipBehind() {
            return first.position <= second.position ? first : second;
        }

        Ship slowerSnapshot() {
            return first.snapshotPosition <= second.snapshotPosition ? first : second;
        }

        int linksUp() {
            return (first.linkUp ? 1 : 0) + (second.linkUp ? 1 : 0);
        }

        int replayedBy(int position) {
            return (first.position > position ? 1 : 0) + (second.position > position ? 2 : 0);
        }

        int replayOrders(Ship ship, int most) {
            for (int done = 0; done < most; done++) {
                if (!canReplay(ship)) {
                    return done;
                }
                ring.replayOne(ship.holds, ship.position);
                ship.position++;
                ship.replayed++;
            }
            return most;
        }

        private boolean canReplay(Ship ship) {
            return ship.linkUp && ring.isKept(ship.position) && ring.canBeRead(ship.position);
        }

        int takeSnapshot(Ship ship) {
            ship.keepSnapshot();
            int before = ring.olderEnd;
            ring.olderEnd = slowerSnapshot().snapshotPosition;
            return ring.olderEnd - before;
        }

        int repairCopies() {
            int copies = 0;
            for (int position = ring.olderEnd; position < ring.newerEnd; position++) {
                if (canRepair(position)) {
                    copies += ring.repairOrder(position);
                }
            }
            repaired += copies;
            return copies;
        }

        /** One good copy repairs the other one; a ship in reach that has the order repairs both. */
        private boolean canRepair(int position) {
            return ring.canBeRead(position) || knowsOrder(first, position)
                    || knowsOrder(second, position);
        }

        private static boolean knowsOrder(Ship ship, int position) {
            return ship.linkUp && ship.position > position;
        }
    }

    /** The text, and the command that was read last. Where a reading fails, "at" is the error's place. */
    private static final class Text {
        int length = 0;
        private final byte[] bytes = new byte[MOST_BYTES];
        private int at = 0;
        int letter = NONE;
        int first = 0;
        int second = 0;
        int number = 0;

        boolean isFull() {
            return length >= MOST_BYTES;
        }

        int add(int value) {
            bytes[length] = (byte) value;
            length++;
            return length;
        }

        int clear() {
            int cleared = length;
            length = 0;
            return cleared;
        }

        /** The byte at this index; NONE behind the end, which is no byte that a command can have. */
        private int byteAt(int index) {
            return index >= 0 && index < length ? bytes[index] : NONE;
        }

        void goToStart() {
            at = 0;
        }

        boolean isAtEnd() {
            return at >= length;
        }

        int findSyntaxError() {
            goToStart();
            for (int commands = 0; commands < MOST_BYTES && !isAtEnd(); commands++) {
                if (!readCommand()) {
                    return at;
                }
            }
            return NONE;
        }

        boolean readCommand() {
            letter = byteAt(at);
            switch (letter) {
                case 'l':
                case 'u':
                    return readSign(letter) && readFirst(HOLDS) && readSign(',')
                            && readNumber() && readSign(';');
                case 'm':
                case 's':
                case 'v':
                    return readSign(letter) && readFirst(HOLDS) && readSecond(HOLDS)
                            && readSign(',') && readNumber() && readSign(';');
                case 'r':
                    return readSign(letter) && readFirst(SHIPS) && readNumber() && readSign(';');
                case 't':
                case 'c':
                    return readSign(letter) && readFirst(SHIPS) && readSign(';');
                default:
                    return false;
            }
        }

        private boolean readSign(int sign) {
            if (byteAt(at) != sign) {
                return false;
            }
            at++;
            return true;
        }

        private boolean readFirst(int digits) {
            first = readDigit(digits);
            // What an earlier command left must not be taken for the second hold of this one.
            second = 0;
            return first != NONE;
        }

        private boolean readSecond(int digits) {
            second = readDigit(digits);
            return second != NONE;
        }

        /** Reads one of the first so many digits; NONE, and nothing read, if there is none. */
        private int readDigit(int digits) {
            int digit = byteAt(at) - '0';
            if (digit < 0 || digit >= digits) {
                return NONE;
            }
            at++;
            return digit;
        }

        private boolean readNumber() {
            int start = at;
            number = 0;
            for (int digits = 0; digits < MOST_DIGITS && isDigit(byteAt(at)); digits++) {
                number = 10 * number + (byteAt(at) - '0');
                at++;
            }
            if (at == start || isDigit(byteAt(at))) {
                return false;
            }
            // Told only now: a third digit is an error of its own, even behind two zeros.
            if (number < 1) {
                at = start;
                return false;
            }
            return true;
        }

        private static boolean isDigit(int sign) {
            return sign >= '0' && sign <= '9';
        }
    }
}
