/** The boundary cases of Terms, part 2, FAULTS: which of two is told, and where. */
public final class EdgesOfFaultsTest {
    private static final String HEADS = "X:1\nT:a\nK:C\n";
    private static final String METER = "M:4/4\n";
    /** 400 THINGS. */
    private static final String ALL = "| ".repeat(400);
    private static final String ALL_BUT_ONE = "| ".repeat(399);

    public static void main(String[] args) {
        moreThan2000Bytes();
        aForeignByteIsFirst();
        whereItIsNotPassedOver();
        theFirstThatIsMet();
        ifItEndsTooEarly();
        aColonThatIsNoBar();
        aNumberThatIsNoneOfThoseTold();
        aLineThatCannotComeThere();
        theOneTooMany();
        aNoteBehindItsOctave();
        aChangeBehindWhatItTells();
        allOthersAtTheirFirstByte();
        whatIsNoThing();
        fault6IsLast();
        Check.finish();
    }

    private static String filled(String text, int size) {
        return text + " ".repeat(size - text.length());
    }

    private static void moreThan2000Bytes() {
        Edge.sentence("Ahead of all others: more than 2,000 bytes: 2 at 2,000");
        int[] sizes = {1999, 2000};
        for (int size : sizes) {
            Edge.let(filled(HEADS, size), 0);
            Edge.let(filled(HEADS + "C%", size), 1);
            Edge.let(HEADS + " ".repeat(size - HEADS.length() - 1) + "C", 1);
            Edge.refused(HEADS + " ".repeat(size - HEADS.length() - 1) + "?", 1, size - 1);
            Edge.refused(HEADS + " ".repeat(size - HEADS.length() - 1) + "(", 6, size);
        }
        int[] more = {2001, 2002, 2019, 2020, 2399, 2400};
        for (int size : more) {
            Edge.refused(filled(HEADS, size), 2, 2000);
            Edge.refused(filled(HEADS + "C%", size), 2, 2000);
            Edge.refused(filled("\u0001", size), 2, 2000);
            Edge.refused(filled("?", size), 2, 2000);
            Edge.refused(filled(HEADS + "C\n\n", size), 2, 2000);
            Edge.refused(filled(HEADS + "C,,,,,,", size), 2, 2000);
            Edge.refused(HEADS + " ".repeat(size - HEADS.length() - 1) + "\u0001", 2, 2000);
        }
    }

    private static void aForeignByteIsFirst() {
        Edge.sentence("then a byte that is not 32 .. 126 where it is not passed over: 1 at the first such.");
        String[] faulty = {"?", "| ".repeat(401), "[K:G#]", "C,,,,,,", ")", "(C", "\n\nC"};
        for (String music : faulty) {
            Edge.refused(HEADS + music + "\n\u0001", 1, HEADS.length() + music.length() + 1);
            Edge.refused(HEADS + music + " \u007f\u0001", 1, HEADS.length() + music.length() + 1);
        }
        Edge.refused("?\n\u0001", 1, 2);
        Edge.refused("?\u0001", 1, 1);
        Edge.refused("X:0\u0001", 1, 3);
        Edge.refused("X:0%\u0001\n?\u0002", 1, 7);
        Edge.refused("X:1\nT:a\nK:G#\n\u001f", 1, 13);
        Edge.refused("\u0001\u0002", 1, 0);
        Edge.refused("X:1\nT:\u0080\nK:C\u00ff", 1, 6);
        Edge.refused(HEADS + "C\n\n\u0000", 1, 15);
        Edge.refused(HEADS + " ".repeat(1987) + "\u0001", 1, 1999);
    }

    private static void whereItIsNotPassedOver() {
        Edge.sentence("a byte that is not 32 .. 126 where it is not passed over");
        Edge.let(HEADS + "C%\u0001\u007f\u00ff%\u0000\nD", 2);
        Edge.let(HEADS + "C\n%\u0001\n\n %\u00ff", 1);
        Edge.refused(HEADS + "C%\u0001\n\u0001D", 1, 16);
        Edge.refused(HEADS + "C\u0001%", 1, 13);
        Edge.refused("X:1%\nT:a\u0001\nK:C\n", 1, 8);
        Edge.refused(HEADS + "?%\u0001", 1, 12);
        Edge.refused(HEADS + "C\\\u0001", 1, 14);
    }

    private static void theFirstThatIsMet() {
        Edge.sentence("Then the first that is met.");
        String[] faults = {"?", "[K:G#]", "C,,,,,,", ")"};
        int[] numbers = {1, 3, 4, 5};
        int[] places = {0, 3, 0, 0};
        for (int i = 0; i < faults.length; i++) {
            for (String other : faults) {
                Edge.refusedMusic("", "C " + faults[i] + " " + other, numbers[i], 2 + places[i]);
                Edge.refusedMusic("", "(3C " + faults[i] + "\n" + other, numbers[i], 4 + places[i]);
            }
            Edge.refusedMusic("", ALL_BUT_ONE + faults[i] + "||", numbers[i], 798 + places[i]);
            Edge.refused("X:1\nT:a\nK:Fb\n" + faults[i], 3, 10);
            Edge.refused("X:0\nT:a\nK:Fb\n" + faults[i], 1, 2);
        }
    }

    private static void ifItEndsTooEarly() {
        Edge.sentence("(at the first that is passed over, the 10, the text's end, if it ends too early;");
        String[] early = {"^", "[", "[C", "{", "{C", "!", "!a", "\"", "\"a", "[K:", "[K:C", "[M:4", "[M:4/", "[L:1", "[V:"};
        for (String one : early) {
            int size = one.length();
            Edge.refusedMusic("", one, 1, size);
            Edge.refusedMusic("", one + "\nC", 1, size);
            Edge.refusedMusic("", one + "   \nC", 1, size);
            Edge.refusedMusic("", one + "%C", 1, size);
            Edge.refusedMusic("", one + "  % C", 1, size);
            Edge.refusedMusic("", one + "\\\nC", 1, size);
            Edge.refusedMusic("", one + "\\  % C", 1, size);
        }
        String[] heads = {"X:", "X:1\nT:a\nM:", "X:1\nT:a\nM:3", "X:1\nT:a\nM:3/", "X:1\nT:a\nL:", "X:1\nT:a\nL:1", "X:1\nT:a\nL:1/",
            "X:1\nT:a\nQ:", "X:1\nT:a\nK:", HEADS + "V:", HEADS + "K:", HEADS + "M:", HEADS + "L:1/"};
        for (String one : heads) {
            int size = one.length();
            Edge.refused(one, 1, size);
            Edge.refused(one + "\nK:C\n", 1, size);
            Edge.refused(one + "\\\nK:C\n", 1, size);
            Edge.refused(one + "%\nK:C\n", 1, size);
        }
        Edge.refused("X:1\nT:a\nM:3/  % 4\n", 1, 12);
        Edge.refused("", 1, 0);
        Edge.refused("X:1", 1, 3);
        Edge.refused("X:1\n", 1, 4);
        Edge.refused("X:1\nT:a % b", 1, 11);
    }

    private static void aColonThatIsNoBar() {
        Edge.sentence("a : that is no bar: at it)");
        Edge.refusedMusic("", ":", 1, 0);
        Edge.refusedMusic("", ":C", 1, 0);
        Edge.refusedMusic("", " C:", 1, 2);
        Edge.refusedMusic("", "| :", 1, 2);
        Edge.refusedMusic("", ": |", 1, 0);
        Edge.refusedMusic("", ":]", 1, 0);
        Edge.refusedMusic("", "|::", 1, 2);
        Edge.refusedMusic("", ":|:", 1, 2);
        Edge.refusedMusic("", ALL + ":", 1, 800);
        Edge.letMusic("", ":||:::", 3);
    }

    private static void aNumberThatIsNoneOfThoseTold() {
        Edge.sentence("a number that is none of those told: at its first byte");
        Edge.refused("X:10000x", 1, 2);
        Edge.refused("X:1\nT:a\nM:33\n", 1, 10);
        Edge.refused("X:1\nT:a\nM:4/12x\n", 1, 12);
        Edge.refused("X:1\nT:a\nL:1/128x\n", 1, 12);
        Edge.refused("X:1\nT:a\nQ:1000x\n", 1, 10);
        Edge.refusedMusic("", "V:12x", 1, 2);
        Edge.refusedMusic("", "[V:12", 1, 3);
        Edge.refusedMusic("", "C128/", 1, 1);
        Edge.refusedMusic("", "C1/128/", 1, 3);
        Edge.refusedMusic(METER, "Z17/", 1, 1);
    }

    private static void aLineThatCannotComeThere() {
        Edge.sentence("a line that cannot come there (a head without its : , too): at its first byte.");
        Edge.refused("C\n", 1, 0);
        Edge.refused("X:1\n T:a\nK:C\n", 1, 4);
        Edge.refused("X:1\nT:a\nW:x\nK:C\n", 1, 8);
        Edge.refused("X:1\nT:a\nK:C\nT:b\n", 1, 12);
        Edge.refused("X:1\nT:a\nK:C\nC\nX:2\n", 1, 14);
        Edge.refused("X:1\nT:a\nK:C\nC\n\nX:2\n", 1, 15);
        Edge.refusedMusic("", ALL + "\nQ:1", 1, 801);
    }

    private static void theOneTooMany() {
        Edge.sentence("2: 401 THINGS, at the one too many, when it comes");
        String[] last = {"|", "z", "x", "Z", "C", "[C]", "{C}", "[K:C]", "[M:C]", "[L:1/8]", "\nK:C", ":|2", "[1"};
        for (String one : last) {
            Edge.letMusic(METER, ALL_BUT_ONE + one, 400);
            int first = one.equals("[C]") || one.equals("{C}") || one.startsWith("\n") ? 1 : 0;
            Edge.refusedMusic(METER, ALL + one, 2, 800 + first);
        }
        Edge.letMusic(METER, "| ".repeat(398) + "[CE]", 400);
        Edge.refusedMusic(METER, ALL_BUT_ONE + "[CE]", 2, 798 + 2);
        Edge.refusedMusic(METER, ALL_BUT_ONE + "{C_E}", 2, 798 + 2);
        Edge.refusedMusic(METER, ALL_BUT_ONE + "C D", 2, 798 + 2);
        Edge.letMusic("", "C".repeat(400), 400);
        Edge.refusedMusic("", "C".repeat(401), 2, 400);
        Edge.letMusic("", "[CDEFGABcdefg]".repeat(33) + "{CDEF}", 400);
        Edge.refusedMusic("", "[CDEFGABcdefg]".repeat(33) + "{CDEFG}", 2, 33 * 14 + 5);
        Edge.refusedMusic("", "[CDEFGABcdefg]".repeat(34), 2, 33 * 14 + 5);
    }

    private static void aNoteBehindItsOctave() {
        Edge.sentence("a note behind its octave (ahead of its PITCH, this ahead of its length)");
        String[] notes = {"C", "^C", "C,,,,,,", "__C,,,,,", "c'''''''", "C0", "C65", "C/3", "C-?"};
        for (String note : notes) {
            Edge.refusedMusic("", ALL + note, 2, 800);
            Edge.refusedMusic("", ALL + "[" + note + "]", 2, 801);
            Edge.refusedMusic("", ALL + "{" + note + "}", 2, 801);
        }
        Edge.refusedMusic("", ALL + "^", 1, 801);
        Edge.refusedMusic("", ALL + "^?", 1, 801);
        Edge.refusedMusic("", ALL + "[^?", 1, 802);
        Edge.refusedMusic("", ALL + "{__", 1, 803);
        Edge.refusedMusic("", ALL + "[]", 1, 801);
        Edge.refusedMusic("", ALL + "{}", 1, 801);
        Edge.refusedMusic("", "C,,,,,,0", 4, 0);
        Edge.refusedMusic("", "C,,,,,0", 1, 6);
    }

    private static void aChangeBehindWhatItTells() {
        Edge.sentence("a change behind what it tells");
        String[] values = {"K:C", "K:none", "M:4/4", "M:none", "L:1/8"};
        String[] wrong = {"K:H", "K:non", "M:4/3", "M:x", "L:1/3"};
        int[] places = {2, 2, 4, 2, 4};
        for (int i = 0; i < values.length; i++) {
            Edge.refusedMusic("", ALL + "[" + values[i] + "]", 2, 800);
            Edge.refusedMusic("", ALL + "\n" + values[i], 2, 801);
            Edge.refusedMusic("", ALL + "[" + wrong[i] + "]", 1, 801 + places[i]);
            Edge.refusedMusic("", ALL + "\n" + wrong[i], 1, 801 + places[i]);
        }
        Edge.refusedMusic("", ALL + "[K:G#]", 3, 803);
        Edge.refusedMusic("", ALL + "\nK:Fb", 3, 803);
        Edge.letMusic("", ALL + "[V:2]\nV:3", 400);
    }

    private static void allOthersAtTheirFirstByte() {
        Edge.sentence("all others at their first byte");
        String[] others = {"z", "z0", "x", "x/3", "Z", "Z0", "Z17", "|", "|5", "||", "||1", "|]", "[|", "|:", ":|", ":|0", "::", "[1"};
        for (String other : others) {
            Edge.refusedMusic(METER, ALL + other, 2, 800);
        }
        Edge.refusedMusic("", ALL + "Z", 1, 800);
        Edge.refusedMusic("", ALL + "[5", 1, 801);
    }

    private static void whatIsNoThing() {
        Edge.sentence("3 THINGS, as they come: 0 NOTE, 1 REST (z), 2 hidden one (x), 3 BARS of rest (Z), 4 BAR, 5 GRACE, 6 KEY, 7 METER, 8"
                + " UNIT (those told in MUSIC).");
        Edge.letMusic("", ALL + ".~HTMPuv\"x\"!y!()[V:2]\nV:3\n\n", 400);
        Edge.askedMusic(METER, "C z x Z | {c} [K:C] [M:C] [L:1/8]\nK:C\nM:C\nL:1/8\nV:1", 12, x ->
                Check.cells(x, 0, 0, 0, 1, 2, 3, 4, 5, 6, 7, 8, 6, 7, 8));
        Edge.letMusic("M:C\nL:1/8\nQ:1\n", "", 0);
    }

    private static void fault6IsLast() {
        Edge.sentence("6 at the text's end: a TUPLET that is not full, a slur that is open.");
        Edge.refusedMusic("", "((3CD", 6, 5);
        Edge.refusedMusic("", "(3C(D", 6, 5);
        Edge.refusedMusic("", "(3CD?", 1, 4);
        Edge.refusedMusic("", "(3CD\n\nE", 1, 6);
        Edge.refusedMusic("", "(C\nC,,,,,,", 4, 3);
        Edge.refusedMusic("", "(" + ALL, 6, 801);
        Edge.refusedMusic("", "(" + ALL + "|", 2, 801);
        Edge.letMusic("", "((3CDE)", 3);
    }
}
