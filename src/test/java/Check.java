/** Counts answers that are due and answers that are not, and prints each one that is not. */
final class Check {
    interface DoubleCall {
        double answer();
    }

    interface LongCall {
        long answer();
    }

    private int passed = 0;
    private int failed = 0;
    private String caseName = "";

    /** From here on, what is printed names this case. */
    void startCase(String name) {
        caseName = name + ": ";
    }

    int answers() {
        return passed + failed;
    }

    void same(String what, long want, LongCall call) {
        note(what, Long.toString(want), outcome(call));
    }

    void sameDouble(String what, double want, DoubleCall call) {
        String got;
        try {
            got = Double.toString(call.answer());
        } catch (RuntimeException e) {
            got = "throws " + e.getClass().getSimpleName();
        }
        note(what, Double.toString(want), got);
    }

    void holds(String what, boolean asDue) {
        note(what, "true", Boolean.toString(asDue));
    }

    /** The call throws just this exception, and the digest tells that nothing has changed by it. */
    void refuses(ShipJournal journal, String what, Class<?> want, LongCall call) {
        long before = journal.digest();
        note(what, "throws " + want.getSimpleName(), outcome(call));
        note(what + ", and nothing changes", Long.toString(before), Long.toString(journal.digest()));
    }

    /** The call answers as due and saves one state on top of those saved before it: undo brings all back. */
    void savesOne(ShipJournal journal, String what, int savedBefore, long want, LongCall call) {
        long before = journal.digest();
        same(what, want, call);
        same(what + ", and saves one state", savedBefore, journal::undo);
        same(what + ", and is undone", before, journal::digest);
    }

    private static String outcome(LongCall call) {
        try {
            return Long.toString(call.answer());
        } catch (RuntimeException e) {
            return "throws " + e.getClass().getSimpleName();
        }
    }

    private void note(String what, String want, String got) {
        if (want.equals(got)) {
            passed++;
        } else {
            failed++;
            System.out.println(caseName + what + ": answered " + got + ", due is " + want);
        }
    }

    /** Prints the counts, and ends the program with 1 if an answer was not as due. */
    void close(String name) {
        System.out.println(name + ": " + passed + " answers as due, " + failed + " not");
        if (failed > 0 || passed == 0) {
            System.exit(1);
        }
    }
}
