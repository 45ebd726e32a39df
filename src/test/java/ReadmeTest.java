import java.io.IOException;
import java.nio.charset.StandardCharsets;
import java.nio.file.Files;
import java.nio.file.Path;
import java.util.List;

/** The example in README.md: its calls, with the answers that stand behind them there. */
public final class ReadmeTest {
    private static final Path README = Path.of("README.md");

    private static final Check CHECK = new Check();

    private static List<String> lines = List.of();
    private static int told = 0;

    public static void main(String[] args) throws IOException {
        lines = Files.readAllLines(README, StandardCharsets.US_ASCII);
        ShipJournal journal = new ShipJournal();
        tells("journal.write(0, 3, 0, 50);", 0, () -> journal.write(0, 3, 0, 50));
        tells("journal.write(2, 3, 1, 20);", 1, () -> journal.write(2, 3, 1, 20));
        tells("journal.replay(0, 99);", 2, () -> journal.replay(0, 99));
        tells("journal.hold(0, 3);", 30, () -> journal.hold(0, 3));
        tells("journal.snapshot(0);", 0, () -> journal.snapshot(0));
        tells("journal.undo();", 3, journal::undo);
        CHECK.holds("README.md has the text", lines.contains("for (char sign : \"l7,5;r12;\".toCharArray()) {"));
        Journals.put(journal, "l7,5;r12;");
        tells("journal.carryOut();", 2, journal::carryOut);
        tells("journal.stop(1);", 3, () -> journal.stop(1));
        tells("journal.tonsAt(3, 7);", 5, () -> journal.tonsAt(3, 7));
        CHECK.same("the lines of README.md that tell an answer", told,
                () -> lines.stream().filter(line -> line.matches("journal\\..*// \\d.*")).count());
        commandsStandInATextSo();
        CHECK.close("ReadmeTest");
    }

    /** The call answers so, and README.md has it with this answer. */
    private static void tells(String call, long answer, Check.LongCall made) {
        told++;
        CHECK.same(call, answer, made);
        String due = call.replaceAll("\\W", "\\\\$0") + " +// " + answer + "(:.*)?";
        CHECK.holds("README.md tells " + call, lines.stream().anyMatch(line -> line.matches(due)));
    }

    private static void commandsStandInATextSo() {
        ShipJournal journal = new ShipJournal();
        String whole = String.join("\n", lines);
        for (String command : new String[] {"l3,50;", "u3,50;", "m31,20;", "s31,1;", "v31,1;", "r099;", "t0;", "c0;"}) {
            CHECK.holds("README.md tells the command " + command, whole.contains("`" + command + "`"));
            CHECK.same(command, 1, () -> Journals.carry(journal, command));
        }
    }
}
