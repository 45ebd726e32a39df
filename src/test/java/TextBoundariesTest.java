/** Promises 21 to 23, and the text as the Terms tell it: one case for each sentence that names a boundary. */
public final class TextBoundariesTest {
    private static final Class<?> ARGUMENT = IllegalArgumentException.class;
    private static final Class<?> STATE = IllegalStateException.class;

    private static final String LETTERS = "lumsvrtc";
    private static final String HOLDS = "01234567";
    private static final String SHIPS = "01";
    private static final String DIGITS = "0123456789";
    /** The beginnings of the commands that have a number, up to that number. */
    private static final String[] BEFORE_NUMBERS = {"l0,", "l7,", "u0,", "u7,", "m01,", "s70,", "v67,", "r0", "r1"};
    private static final int MOST_BYTES = 100;

    public static void main(String[] args) {
        Cases.runAll(TextBoundariesTest.class);
    }

    private static String printable(String text) {
        StringBuilder shown = new StringBuilder("\"");
        for (char sign : text.toCharArray()) {
            if (sign < ' ' || sign > '~') {
                shown.append("\\").append((int) sign);
            } else {
                shown.append(sign);
            }
        }
        return shown.append("\"").toString();
    }

    /** On a new journal, this text answers so. */
    private static void carries(Check c, String text, long want) {
        ShipJournal j = new ShipJournal();
        c.same(printable(text), want, () -> Journals.carry(j, text));
    }

    private static void fails(Check c, String text, int position) {
        carries(c, text, -10 - position);
    }

    // ---- 21: append

    static void appendTakesBytesFromZeroTo127(Check c) {
        ShipJournal j = new ShipJournal();
        c.same("append(0)", 1, () -> j.append(0));
        c.same("append(127)", 2, () -> j.append(127));
        for (int value : new int[] {-1, 128, -128, 255, 256, Integer.MIN_VALUE, Integer.MAX_VALUE}) {
            c.refuses(j, "append(" + value + ")", ARGUMENT, () -> j.append(value));
        }
        c.same("the refused ones are not in the text", 2, j::clearText);
    }

    static void appendFillsTheTextUpToAHundredBytes(Check c) {
        ShipJournal j = new ShipJournal();
        for (int l = 1; l <= MOST_BYTES; l++) {
            int length = l;
            c.same("length " + length, length, () -> j.append('x'));
        }
        c.refuses(j, "the 101st byte", STATE, () -> j.append('x'));
        c.same("100 bytes", 100, j::clearText);
    }

    static void appendTellsAWrongByteBeforeAFullText(Check c) {
        ShipJournal j = new ShipJournal();
        Journals.put(j, "x".repeat(MOST_BYTES));
        c.refuses(j, "append(-1)", ARGUMENT, () -> j.append(-1));
        c.refuses(j, "append(128)", ARGUMENT, () -> j.append(128));
    }

    static void appendGoesOnBehindAFullTextThatIsCleared(Check c) {
        ShipJournal j = new ShipJournal();
        Journals.put(j, "x".repeat(MOST_BYTES));
        j.clearText();
        c.same("the first byte again", 1, () -> j.append('c'));
        j.append('0');
        j.append(';');
        c.same("the new text alone", 1, j::carryOut);
    }

    static void appendIsNotUndoable(Check c) {
        ShipJournal j = new ShipJournal();
        j.append('c');
        c.refuses(j, "undo", STATE, j::undo);
    }

    // ---- 22: clearText

    static void clearTextReturnsLengthsFromZeroToAHundred(Check c) {
        ShipJournal j = new ShipJournal();
        c.same("of no text", 0, j::clearText);
        for (int length : new int[] {1, 99, 100}) {
            for (int i = 0; i < length; i++) {
                j.append(';');
            }
            c.same("of " + length, length, j::clearText);
            c.same("of no text again", 0, j::clearText);
        }
    }

    static void clearTextIsNotUndoable(Check c) {
        ShipJournal j = new ShipJournal();
        Journals.put(j, "c0;");
        j.clearText();
        c.refuses(j, "undo", STATE, j::undo);
    }

    // ---- the text: what can stand where

    /** Each of the 128 bytes behind a beginning that is right so far; places[i] is what can stand at i. */
    private static void eachByteAtEachPlace(Check c, String command, String... places) {
        for (int i = 0; i < places.length; i++) {
            String begun = command.substring(0, i);
            boolean numberBegins = places[i].equals(DIGITS) && places[i + 1].startsWith(DIGITS);
            for (char sign = 0; sign <= 127; sign++) {
                byteBehind(c, begun, sign, places[i], numberBegins);
            }
        }
    }

    private static void byteBehind(Check c, String begun, char sign, String canStand, boolean numberBegins) {
        String text = begun + sign;
        int at = begun.length();
        if (canStand.indexOf(sign) < 0 || numberBegins && sign == '0') {
            fails(c, text, at);
            fails(c, "c1;" + text, at + 3);
        } else if (sign == ';') {
            carries(c, text, 1);
            carries(c, "c1;" + text, 2);
        } else {
            fails(c, text, at + 1);
            fails(c, "c1;" + text, at + 4);
        }
    }

    static void eachByteAtEachPlaceOfALoadOrAnUnload(Check c) {
        eachByteAtEachPlace(c, "l3,12;", LETTERS, HOLDS, ",", DIGITS, DIGITS + ";", ";");
        eachByteAtEachPlace(c, "u7,95;", LETTERS, HOLDS, ",", DIGITS, DIGITS + ";", ";");
    }

    static void eachByteAtEachPlaceOfAMoveASwapOrALevel(Check c) {
        eachByteAtEachPlace(c, "m34,12;", LETTERS, HOLDS, HOLDS, ",", DIGITS, DIGITS + ";", ";");
        eachByteAtEachPlace(c, "s70,95;", LETTERS, HOLDS, HOLDS, ",", DIGITS, DIGITS + ";", ";");
        eachByteAtEachPlace(c, "v07,10;", LETTERS, HOLDS, HOLDS, ",", DIGITS, DIGITS + ";", ";");
    }

    static void eachByteAtEachPlaceOfAReplay(Check c) {
        eachByteAtEachPlace(c, "r012;", LETTERS, SHIPS, DIGITS, DIGITS + ";", ";");
        eachByteAtEachPlace(c, "r199;", LETTERS, SHIPS, DIGITS, DIGITS + ";", ";");
    }

    static void eachByteAtEachPlaceOfASnapshotOrACrash(Check c) {
        eachByteAtEachPlace(c, "t0;", LETTERS, SHIPS, ";");
        eachByteAtEachPlace(c, "c1;", LETTERS, SHIPS, ";");
    }

    static void thereMayBeNoCommands(Check c) {
        ShipJournal j = new ShipJournal();
        c.same("no text at all", 0, j::carryOut);
        Journals.put(j, "c0;");
        j.clearText();
        c.same("a text that is cleared", 0, j::carryOut);
        fails(c, ";", 0);
        fails(c, "c0;;", 3);
    }

    static void thereAreNoSpaces(Check c) {
        fails(c, " ", 0);
        fails(c, " c0;", 0);
        fails(c, "c 0;", 1);
        fails(c, "c0 ;", 2);
        fails(c, "c0; ", 3);
        fails(c, "c0; c0;", 3);
        fails(c, "l0, 1;", 3);
        fails(c, "l0,1 ;", 4);
        fails(c, "c0;\n", 3);
    }

    static void aTextThatEndsTooEarlyFailsAtItsLength(Check c) {
        for (String command : new String[] {"l0,12;", "u7,1;", "m01,12;", "s10,1;", "v76,99;", "r012;", "r11;", "t0;",
            "c1;"}) {
            for (int length = 1; length < command.length(); length++) {
                fails(c, command.substring(0, length), length);
                fails(c, "t1;" + command.substring(0, length), 3 + length);
            }
            carries(c, command, 1);
            carries(c, "t1;" + command, 2);
        }
    }

    // ---- the text: numbers

    static void numbersGoFromOneToNinetyNineInOneOrTwoDigits(Check c) {
        for (String begun : BEFORE_NUMBERS) {
            for (int number = 1; number <= 99; number++) {
                carries(c, begun + number + ";", 1);
            }
        }
    }

    static void numbersMayHaveAZeroInFront(Check c) {
        for (String begun : BEFORE_NUMBERS) {
            for (int number = 1; number <= 9; number++) {
                carries(c, begun + "0" + number + ";", 1);
            }
        }
        ShipJournal j = new ShipJournal();
        Journals.carry(j, "l0,07;m01,08;u1,09;");
        for (int p = 0; p < 3; p++) {
            int position = p;
            c.same("amount of order " + position, 7 + position, () -> j.order(position, 3));
        }
        c.same("r002; replays two", 1, () -> Journals.carry(j, "r002;"));
        c.same("position", 2, () -> j.ship(0, 0));
    }

    static void numbersKeepBothDigits(Check c) {
        for (int amount : new int[] {1, 9, 10, 19, 90, 99}) {
            ShipJournal j = new ShipJournal();
            Journals.carry(j, "l0," + amount + ";v01," + amount + ";");
            c.same("amount of a load", amount, () -> j.order(0, 3));
            c.same("amount of a level", amount, () -> j.order(1, 3));
        }
        ShipJournal j = Journals.full(32);
        Journals.carry(j, "r19;");
        c.same("r19;", 9, () -> j.ship(1, 0));
        Journals.carry(j, "r110;");
        c.same("r110;", 19, () -> j.ship(1, 0));
        Journals.carry(j, "r199;");
        c.same("r199;", 32, () -> j.ship(1, 0));
    }

    static void aNumberOutOfRangeFailsAtItsFirstDigitWhicheverByteFollows(Check c) {
        for (String begun : BEFORE_NUMBERS) {
            for (String zeros : new String[] {"0", "00"}) {
                for (char sign = 0; sign <= 127; sign++) {
                    if (DIGITS.indexOf(sign) < 0) {
                        fails(c, begun + zeros + sign, begun.length());
                    }
                }
                fails(c, begun + zeros + ";c0;", begun.length());
            }
        }
    }

    static void aNumberOutOfRangeFailsAtItsFirstDigitAtTheEndOfTheText(Check c) {
        for (String begun : BEFORE_NUMBERS) {
            fails(c, begun + "0", begun.length());
            fails(c, begun + "00", begun.length());
            fails(c, "c0;" + begun + "0", 3 + begun.length());
            fails(c, "c0;" + begun + "00", 3 + begun.length());
        }
    }

    /** Behind two zeros a digit follows the number: it is one too many, and the range is not looked at. */
    static void aThirdDigitFailsWhereItStands(Check c) {
        for (String begun : BEFORE_NUMBERS) {
            for (String two : new String[] {"00", "01", "10", "99"}) {
                for (char digit : DIGITS.toCharArray()) {
                    fails(c, begun + two + digit, begun.length() + 2);
                    fails(c, begun + two + digit + ";", begun.length() + 2);
                }
            }
        }
    }

    static void aNumberInRangeFailsAtTheByteThatFollows(Check c) {
        for (String begun : BEFORE_NUMBERS) {
            for (String number : new String[] {"1", "9", "01", "10", "99"}) {
                for (char sign = 0; sign <= 127; sign++) {
                    if (DIGITS.indexOf(sign) < 0 && sign != ';') {
                        fails(c, begun + number + sign, begun.length() + number.length());
                    }
                }
            }
        }
    }

    static void theFirstErrorIsTold(Check c) {
        fails(c, "l0,0;x", 3);
        fails(c, "x0,0;", 0);
        fails(c, "l8,0;", 1);
        fails(c, "l0;0;", 2);
        fails(c, "m08,0;", 2);
        fails(c, "c0;l0,100;l0,0;", 8);
    }

    // ---- the text: its length

    static void aTextOfAHundredBytes(Check c) {
        carries(c, "l0,1;".repeat(8) + "r011;".repeat(12), 20);
        carries(c, "c1;".repeat(32) + "r11;", 33);
        carries(c, "t0;".repeat(33), 33);
        fails(c, "t0;".repeat(33) + "t", 100);
        fails(c, "t0;".repeat(33) + ";", 99);
        fails(c, "t0;".repeat(32) + "r01x", 99);
        fails(c, "t0;".repeat(32) + "r012", 100);
        fails(c, "t0;".repeat(32) + "r000", 98);
        fails(c, "t0;".repeat(32) + "l0,0", 99);
        fails(c, "t0;".repeat(32) + "l0,9", 100);
    }

    // ---- 23: carryOut

    static void carryOutReachesEachKindHoldAndShip(Check c) {
        ShipJournal j = new ShipJournal();
        c.same("orders", 5, () -> Journals.carry(j, "l0,99;u7,1;m07,10;s70,2;v67,3;"));
        Journals.orderIs(c, "l", j, 0, 0, 0, 0, 99, 0, 0);
        Journals.orderIs(c, "u", j, 1, 1, 7, 0, 1, 0, 0);
        Journals.orderIs(c, "m", j, 2, 2, 0, 7, 10, 0, 0);
        Journals.orderIs(c, "s", j, 3, 3, 7, 0, 2, 0, 0);
        Journals.orderIs(c, "v", j, 4, 4, 6, 7, 3, 0, 0);
        c.same("ships", 6, () -> Journals.carry(j, "r03;t0;r01;c0;r11;t1;"));
        Journals.shipIs(c, "ship 0", j, 0, 3, 3, 1, 99, 4, 1);
        Journals.shipIs(c, "ship 1", j, 1, 1, 1, 1, 99, 1, 0);
        Journals.valuesAre(c, "freed", j, 8, 1, 5, 4);
        c.same("the other crash", 2, () -> Journals.carry(j, "r14;c1;"));
        Journals.shipIs(c, "ship 1 again", j, 1, 1, 1, 1, 99, 5, 1);
    }

    static void carryOutTakesNoHoldFromTheCommandBefore(Check c) {
        ShipJournal j = new ShipJournal();
        c.same("a move, a load", 2, () -> Journals.carry(j, "m12,3;l2,4;"));
        Journals.orderIs(c, "the load", j, 1, 0, 2, 0, 4, 0, 0);
        c.same("a move, an unload of its second hold", 2, () -> Journals.carry(j, "m45,3;u5,4;"));
        Journals.orderIs(c, "the unload", j, 3, 1, 5, 0, 4, 0, 0);
    }

    static void carryOutEndsBeforeAWriteIntoAFullRing(Check c) {
        ShipJournal j = Journals.ofPlaces(4);
        c.same("three, then three", 3, () -> Journals.carry(j, "l0,1;l0,2;l0,3;"));
        c.same("one fits", 1, () -> Journals.carry(j, "l0,4;l0,5;c0;"));
        Journals.valuesAre(c, "full", j, 4, 0, 4, 4);
        c.same("what is behind it is not done", 0, () -> j.ship(0, 5));
        c.same("none fits", 0, () -> Journals.carry(j, "l0,6;c0;"));
        c.same("freeing makes room in the same text", 7, () -> Journals.carry(j, "r01;r11;t0;t1;l0,6;c0;c1;l0,7;"));
        Journals.valuesAre(c, "around", j, 4, 1, 5, 4);
    }

    static void carryOutEndsBeforeTheSameHoldTwice(Check c) {
        for (char letter : "msv".toCharArray()) {
            for (int hold = 0; hold < 8; hold++) {
                ShipJournal j = new ShipJournal();
                String same = "" + letter + hold + hold + ",1;";
                c.same(same, 0, () -> Journals.carry(j, same + "c0;"));
                c.same("c1;" + same, 1, () -> Journals.carry(j, "c1;" + same + "c0;"));
                Journals.valuesAre(c, "nothing is written", j, 8, 0, 0, 0);
                c.same("nothing behind it is done", 0, () -> j.ship(0, 5));
            }
        }
    }

    static void carryOutEndsBeforeASnapshotWithoutItsLink(Check c) {
        for (int ship = 0; ship < 2; ship++) {
            int s = ship;
            ShipJournal j = Journals.withLoads(2);
            j.replay(s, 2);
            j.link(s, false);
            c.same("t" + s, 0, () -> Journals.carry(j, "t" + s + ";c0;"));
            c.same("the other one", 1, () -> Journals.carry(j, "t" + (1 - s) + ";t" + s + ";c0;"));
            Journals.shipIs(c, "no snapshot", j, s, 2, 0, 0, 3, 2, 0);
        }
    }

    static void carryOutGoesOnBehindCommandsThatDoNothing(Check c) {
        ShipJournal j = Journals.withLoads(2);
        j.link(0, false);
        c.same("no link, no order, no fall", 4, () -> Journals.carry(j, "r01;c0;r199;r11;"));
        c.same("ship 0", 0, () -> j.ship(0, 0));
        c.same("ship 1", 2, () -> j.ship(1, 0));
        c.same("the crash counts", 1, () -> j.ship(0, 5));
    }

    static void carryOutKeepsTheText(Check c) {
        ShipJournal j = new ShipJournal();
        Journals.put(j, "l0,1;c0;");
        c.same("once", 2, j::carryOut);
        c.same("twice", 2, j::carryOut);
        c.same("two orders", 2, () -> j.value(2));
        c.same("two crashes", 2, () -> j.ship(0, 5));
        c.same("its length", 8, j::clearText);
    }

    static void carryOutSavesOneStateForAllItsCommands(Check c) {
        ShipJournal j = new ShipJournal();
        Journals.put(j, "l0,1;l0,2;r01;t0;c0;");
        c.savesOne(j, "five commands", 0, 5, j::carryOut);
    }

    static void carryOutSavesOneStateThoughNoCommandIsCarriedOut(Check c) {
        ShipJournal j = new ShipJournal();
        c.savesOne(j, "no text", 0, 0, j::carryOut);
        Journals.put(j, "m00,1;");
        c.savesOne(j, "it ends at once", 0, 0, j::carryOut);
    }

    static void carryOutChangesNothingWhereThereIsASyntaxError(Check c) {
        for (String text : new String[] {"l0,1;c0;x", "l0,1;c0;t", "l0,1;c0;l0,0;", "l0,1;c0;r0100;", "m00,1;x"}) {
            ShipJournal j = new ShipJournal();
            Journals.put(j, text);
            long before = j.digest();
            c.holds(text + " is an error", j.carryOut() <= -10);
            c.same(text + " changes nothing", before, j::digest);
            c.refuses(j, text + " saves no state", STATE, j::undo);
            c.same(text + " stays", text.length(), j::clearText);
        }
    }

    static void carryOutStartsAnewBehindASyntaxError(Check c) {
        for (String wrong : new String[] {"m08,1;", "l8,1;", "r2", "l0,0;", "r100;", "x"}) {
            ShipJournal j = new ShipJournal();
            c.holds(wrong + " is an error", Journals.carry(j, wrong) <= -10);
            c.same("all kinds behind " + wrong, 4, () -> Journals.carry(j, "l0,9;u0,1;r03;c1;"));
            c.same("tons behind " + wrong, 8, () -> j.hold(0, 0));
        }
    }

    static void carryOutTellsASyntaxErrorBehindACommandThatWouldThrow(Check c) {
        fails(c, "m00,1;x", 6);
        fails(c, "v77,1;l0,0;", 9);
    }
}
