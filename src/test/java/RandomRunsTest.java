import java.util.Random;

/** Runs of calls with arguments drawn from fixed seeds, each answer held against the Model's. */
public final class RandomRunsTest {
    private static final int RUNS = 6000;
    private static final int CALLS = 512;
    private static final int[] STRANGE = {-1, Integer.MIN_VALUE, Integer.MAX_VALUE, 2, 4, 5, 6, 7, 8, 33, 100, 128};
    private static final String BYTES = "lumsvrtc0123456789,;:x/8";

    private interface Step {
        double answer();
    }

    private final ShipJournal journal = new ShipJournal();
    private final Model model = new Model();
    private final Random random;
    private final int run;
    private String pending = "";
    private boolean textIsPut = false;
    private boolean failed = false;

    private RandomRunsTest(int run) {
        this.run = run;
        this.random = new Random(run);
    }

    private static String outcome(Step step) {
        try {
            return Double.toString(step.answer());
        } catch (RuntimeException e) {
            return "throws " + e.getClass().getSimpleName();
        }
    }

    private void compare(String call, Step got, Step want) {
        String g = outcome(got);
        String w = outcome(want);
        if (!g.equals(w)) {
            failed = true;
            System.out.println("run " + run + ": " + call + " answered " + g + ", the model " + w);
        }
    }

    /** A number from low to high, now and then one outside. */
    private int draw(int low, int high) {
        int chance = random.nextInt(60);
        if (chance == 0) {
            return low - 1;
        }
        if (chance == 1) {
            return high + 1;
        }
        if (chance == 2) {
            return STRANGE[random.nextInt(STRANGE.length)];
        }
        return low + random.nextInt(high - low + 1);
    }

    /** Asks the model: what is asked of the journal counts among its calls. */
    private int drawPosition() {
        return draw(model.value(1) - 1, model.value(2) + 1);
    }

    private String drawText() {
        StringBuilder text = new StringBuilder();
        int commands = random.nextInt(5);
        for (int i = 0; i < commands; i++) {
            char letter = "lumsvrtc".charAt(random.nextInt(8));
            text.append(letter);
            text.append(random.nextInt("rtc".indexOf(letter) >= 0 ? 2 : 8));
            if ("msv".indexOf(letter) >= 0) {
                text.append(random.nextInt(8));
            }
            if ("rtc".indexOf(letter) < 0) {
                text.append(',');
            }
            if ("tc".indexOf(letter) < 0) {
                text.append(random.nextInt(4) == 0 ? "0" : "");
                text.append(random.nextInt(random.nextInt(12) == 0 ? 12 : 10));
            }
            text.append(';');
        }
        if (random.nextInt(3) == 0 && text.length() > 0) {
            int place = random.nextInt(text.length());
            char sign = random.nextInt(8) == 0 ? (char) random.nextInt(128)
                    : BYTES.charAt(random.nextInt(BYTES.length()));
            switch (random.nextInt(3)) {
                case 0 -> text.setCharAt(place, sign);
                case 1 -> text.insert(place, sign);
                default -> text.setLength(place);
            }
        }
        return text.toString();
    }

    private void step() {
        if (!pending.isEmpty()) {
            int sign = pending.charAt(0);
            pending = pending.substring(1);
            textIsPut = pending.isEmpty();
            compare("append(" + sign + ")", () -> journal.append(sign), () -> model.append(sign));
            return;
        }
        if (textIsPut) {
            textIsPut = false;
            compare("carryOut()", journal::carryOut, model::carryOut);
            return;
        }
        int pick = random.nextInt(125);
        if (pick < 24) {
            int kind = draw(0, 4);
            int a = draw(0, 7);
            int b = draw(0, 7);
            int amount = draw(1, 99);
            compare("write(" + kind + ", " + a + ", " + b + ", " + amount + ")",
                    () -> journal.write(kind, a, b, amount), () -> model.write(kind, a, b, amount));
        } else if (pick < 36) {
            int ship = draw(0, 1);
            int orders = random.nextBoolean() ? draw(1, 99) : draw(1, 4);
            compare("replay(" + ship + ", " + orders + ")",
                    () -> journal.replay(ship, orders), () -> model.replay(ship, orders));
        } else if (pick < 46) {
            int ship = draw(0, 1);
            compare("snapshot(" + ship + ")", () -> journal.snapshot(ship), () -> model.snapshot(ship));
        } else if (pick < 54) {
            int position = drawPosition();
            int copy = draw(0, 1);
            compare("spoil(" + position + ", " + copy + ")",
                    () -> journal.spoil(position, copy), () -> model.spoil(position, copy));
        } else {
            rareStep(pick);
        }
    }

    private void rareStep(int pick) {
        int ship = draw(0, 1);
        boolean up = random.nextInt(3) > 0;
        if (pick < 59) {
            compare("repair()", journal::repair, model::repair);
        } else if (pick < 63) {
            compare("crash(" + ship + ")", () -> journal.crash(ship), () -> model.crash(ship));
        } else if (pick < 70) {
            compare("link(" + ship + ", " + up + ")", () -> journal.link(ship, up), () -> model.link(ship, up));
        } else if (pick < 76) {
            compare("undo()", journal::undo, model::undo);
        } else if (pick < 78) {
            compare("clearText()", journal::clearText, model::clearText);
        } else if (pick < 84) {
            if (random.nextInt(4) > 0) {
                compare("clearText()", journal::clearText, model::clearText);
            }
            pending = drawText();
        } else if (pick < 86) {
            compare("carryOut()", journal::carryOut, model::carryOut);
        } else if (pick < 87) {
            int places = draw(4, 32);
            compare("begin(" + places + ")", () -> journal.begin(places), () -> model.begin(places));
        } else if (pick < 88) {
            int value = draw(0, 127);
            compare("append(" + value + ")", () -> journal.append(value), () -> model.append(value));
        } else {
            ask(ship);
        }
    }

    private void ask(int ship) {
        int what = draw(0, 6);
        int hold = draw(0, 7);
        int position = drawPosition();
        switch (random.nextInt(12)) {
            case 0 -> compare("order(" + position + ", " + what + ")",
                    () -> journal.order(position, what), () -> model.order(position, what));
            case 1 -> compare("ship(" + ship + ", " + what + ")",
                    () -> journal.ship(ship, what), () -> model.ship(ship, what));
            case 2 -> compare("hold(" + ship + ", " + hold + ")",
                    () -> journal.hold(ship, hold), () -> model.hold(ship, hold));
            case 3 -> compare("value(" + what + ")", () -> journal.value(what), () -> model.value(what));
            case 4 -> compare("ahead(" + ship + ")", () -> journal.ahead(ship), () -> model.ahead(ship));
            case 5 -> compare("stop(" + ship + ")", () -> journal.stop(ship), () -> model.stop(ship));
            case 6 -> compare("tonsAt(" + position + ", " + hold + ")",
                    () -> journal.tonsAt(position, hold), () -> model.tonsAt(position, hold));
            case 7 -> compare("agree()", journal::agree, model::agree);
            case 8 -> compare("roomBy(" + ship + ")", () -> journal.roomBy(ship), () -> model.roomBy(ship));
            case 9 -> compare("slower()", journal::slower, model::slower);
            case 10 -> compare("fullness()", journal::fullness, model::fullness);
            default -> compareDigests();
        }
    }

    /** As they are: as doubles, two digests that are near each other would be the same. */
    private void compareDigests() {
        if (journal.digest() != model.digest()) {
            failed = true;
            System.out.println("run " + run + ": the digests differ");
        }
    }

    /** Each step is one call: an object is used for no more than 512. */
    private boolean passes() {
        for (int call = 1; call < CALLS && !failed; call++) {
            step();
        }
        compareDigests();
        return !failed;
    }

    public static void main(String[] args) {
        int bad = 0;
        for (int run = 0; run < RUNS && bad < 5; run++) {
            bad += new RandomRunsTest(run).passes() ? 0 : 1;
        }
        System.out.println("RandomRunsTest: " + RUNS + " runs asked for, " + bad + " differ from the model");
        if (bad > 0) {
            System.exit(1);
        }
    }
}
