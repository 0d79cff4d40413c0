/** The boundary cases of promises 6 to 15: what each answers at its edges, and each BAD. */
public final class EdgesOfAnswersTest {
    private static final long EIGHTH = 161280;
    private static final int BAD = AbcForms.BAD;
    private static final int LEAST = Integer.MIN_VALUE;
    private static final int MOST = Integer.MAX_VALUE;
    private static final String ALL = "| ".repeat(400);

    public static void main(String[] args) {
        headOfEachNumber();
        headNoneSuch();
        headMeterNone();
        headTempoNone();
        headGreatestVoice();
        titleBytes();
        titleNoneSuch();
        thingNoneSuch();
        thingOfANote();
        thingOfABar();
        thingOfOthers();
        thingOfAChord();
        thingOfNoNote();
        thingOrnaments();
        thingWords();
        thingSlurs();
        thingEnding();
        thingPlace();
        timeNone();
        timeNoneSuch();
        startOfEach();
        startNoneSuch();
        measuresNoneSuch();
        fullNoneSuch();
        lengthNoneSuch();
        playedHowMany();
        playedNoneSuch();
        writtenSign();
        writtenLetterAndOctave();
        writtenLength();
        writtenNoSuchOne();
        writtenByTheUnitThere();
        writtenTimeAsItIs();
        writtenNoNote();
        writtenNoSuchK();
        Check.finish();
    }

    private static void heads(String text, int rule, int... wanted) {
        Edge.asked(rule, text, wanted[7], x -> {
            for (int what = 0; what < wanted.length; what++) {
                Check.due("head(" + what + ")", x.head(what), wanted[what]);
            }
        });
    }

    private static void headOfEachNumber() {
        Edge.sentence("Of the tune: 0 X, 1 T lines, 2 meter's number (0: none), 3 its lower one, 4 unit's lower one, 5 Q (0), 6 SIGNS of"
                + " the key, 7 THINGS, 8 the greatest VOICE that was at hand, 9 RULE.");
        heads("X:9999\nT:a\nT:b\nT:c\nM:32/1\nL:1/64\nQ:999\nK:C#\nV:3\n" + ALL, 1, 9999, 3, 32, 1, 64, 999, 7, 400, 3, 1);
        heads("X:1\nT:a\nM:1/32\nL:1/1\nQ:1\nK:Cb\n", 0, 1, 1, 1, 32, 1, 1, -7, 0, 1, 0);
        heads("X:1\nT:a\nM:1/32\nQ:1\nK:none\nC[K:G][M:C][L:1/2][V:2]", 1, 1, 1, 1, 32, 16, 1, 0, 4, 2, 1);
    }

    private static void headNoneSuch() {
        Edge.sentence("9 RULE. BAD: none such, no tune.");
        int[] wrong = {-1, 10, 11, -2, -3, LEAST, MOST};
        Edge.askedMusic("", "C", 1, x -> {
            for (int what : wrong) {
                Check.due("head(" + what + ")", x.head(what), BAD);
            }
        });
        AbcForms x = new AbcForms(1);
        for (int what = -2; what <= 11; what++) {
            Check.due("head(" + what + ") of a new object", x.head(what), BAD);
        }
    }

    private static void headMeterNone() {
        Edge.sentence("2 meter's number (0: none)");
        Edge.askedMusic("", "[M:3/4]", 1, x -> Check.due("head(2) without M:", x.head(2), 0));
        Edge.askedMusic("M:none\n", "[M:3/4]", 1, x -> Check.due("head(2) of none", x.head(2), 0));
        Edge.askedMusic("M:1/1\n", "[M:none]", 1, x -> Check.due("head(2) of 1/1", x.head(2), 1));
        Edge.askedMusic("", "[M:none][M:1/2]", 2, x -> Check.cells(x, 3, 0, 0, 1));
    }

    private static void headTempoNone() {
        Edge.sentence("5 Q (0)");
        Edge.askedMusic("", "", 0, x -> Check.due("head(5) without Q:", x.head(5), 0));
        Edge.askedMusic("Q:1\n", "", 0, x -> Check.due("head(5)", x.head(5), 1));
    }

    private static void headGreatestVoice() {
        Edge.sentence("8 the greatest VOICE that was at hand");
        Edge.askedMusic("", "", 0, x -> Check.due("head(8)", x.head(8), 1));
        Edge.askedMusic("", "[V:1]C", 1, x -> Check.due("head(8)", x.head(8), 1));
        Edge.askedMusic("", "[V:2]", 0, x -> Check.due("head(8)", x.head(8), 2));
        Edge.askedMusic("", "V:3\nV:1\nC[V:2]", 1, x -> Check.due("head(8)", x.head(8), 3));
    }

    private static void titleBytes() {
        Edge.sentence("Byte k of T line i (behind blanks); k = - 1: how many.");
        Edge.asked("X:1\nT:   a b   \nT:\nT:~ \\\nK:C\n", 0, x -> {
            Check.due("title(0, -1)", x.title(0, -1), 3);
            Check.due("title(0, 0)", x.title(0, 0), 'a');
            Check.due("title(0, 1)", x.title(0, 1), ' ');
            Check.due("title(0, 2)", x.title(0, 2), 'b');
            Check.due("title(1, -1)", x.title(1, -1), 0);
            Check.due("title(2, -1)", x.title(2, -1), 2);
            Check.due("title(2, 0)", x.title(2, 0), '~');
            Check.due("title(2, 1)", x.title(2, 1), ' ');
        });
    }

    private static void titleNoneSuch() {
        Edge.sentence("k = - 1: how many. BAD: none such.");
        for (int many = 1; many <= 3; many++) {
            int lines = many;
            Edge.asked("X:1\n" + "T:ab\n".repeat(many) + "K:C\n", 0, x -> {
                Check.due("the last line", x.title(lines - 1, -1), 2);
                int[] none = {lines, lines + 1, 3, 4, -1, LEAST, MOST};
                for (int i : none) {
                    Check.due("title(" + i + ", -1)", x.title(i, -1), BAD);
                    Check.due("title(" + i + ", 0)", x.title(i, 0), BAD);
                }
                int[] wrong = {2, 3, -2, LEAST, MOST};
                for (int k : wrong) {
                    Check.due("title(0, " + k + ")", x.title(0, k), BAD);
                }
            });
        }
        Edge.asked("X:1\nT:\nK:C\n", 0, x -> Check.due("title(0, 0) of no bytes", x.title(0, 0), BAD));
    }

    private static void thingNoneSuch() {
        Edge.sentence("15 an ending (0), 16 the place in the text. BAD: none such.");
        int[] whats = {-1, 17, 18, -2, LEAST, MOST};
        Edge.askedMusic("", "CD", 2, x -> {
            for (int what : whats) {
                Check.due("thing(0, " + what + ")", x.thing(0, what), BAD);
            }
            int[] none = {-1, 2, 3, 399, 400, LEAST, MOST};
            for (int i : none) {
                Check.due("thing(" + i + ", 0)", x.thing(i, 0), BAD);
                Check.due("thing(" + i + ", 16)", x.thing(i, 16), BAD);
            }
        });
        Edge.askedMusic("", ALL, 400, x -> {
            Check.due("thing(399, 16)", x.thing(399, 16), 12 + 798);
            Check.due("thing(400, 0)", x.thing(400, 0), BAD);
            Check.due("thing(-1, 0)", x.thing(-1, 0), BAD);
        });
        Edge.askedMusic("", "", 0, x -> Check.due("thing(0, 0) of none", x.thing(0, 0), BAD));
    }

    private static void thingOfANote() {
        Edge.sentence("Of THING i: 0 sort, 1 VOICE, 2 MEASURE, 3 PITCH");
        Edge.sentence("5 octave, 6 SIGN, 7 whether its SIGN is written, 8 tie");
        int[][] wanted = {
            {0, 1, 0, 62, 0, 4, 2, 1, 1, 1, 0, 0, 0, 0, 0, 0, 12},
            {4, 1, 0, 0, 0, 0, 0, 0, 0, 0, 0, 0, 0, 0, 0, 0, 16},
            {0, 1, 1, 62, 0, 4, 2, 0, 0, 1, 0, 0, 0, 0, 0, 0, 18},
            {5, 3, 0, 21, 6, 0, -2, 1, 0, 1, 0, 0, 0, 0, 0, 0, 26},
            {0, 3, 0, 95, 6, 6, 0, 0, 0, 2, 0, 1, 2, 1, 1, 0, 48},
            {0, 3, 0, 82, 6, 5, -1, 1, 0, 2, 1, 0, 0, 0, 0, 0, 50}};
        Edge.asked(1, Check.tune("", "^^C-| C [V:3]{__B,,,,}.(\"a\"\"b\"     [b'_b])"), 6, x -> {
            for (int i = 0; i < wanted.length; i++) {
                for (int what = 0; what <= 16; what++) {
                    Check.due("thing(" + i + ", " + what + ")", x.thing(i, what), wanted[i][what]);
                }
            }
        });
    }

    private static void thingOfABar() {
        Edge.sentence("(of a BAR: 0 | 1 || 2 |] 3 [| 4 |: 5 :| 6 :: 7 [ alone with an ending;");
        Edge.cells("", "| || |] [| |: :| :: [1 |2 :|3", 3, 0, 1, 2, 3, 4, 5, 6, 7, 0, 5);
        Edge.cells("", "| || |] [| |: :| :: [1 |2 :|3", 0, 4, 4, 4, 4, 4, 4, 4, 4, 4, 4);
    }

    private static void thingOfOthers() {
        Edge.sentence("KEY: SIGNS; METER: number; UNIT, BARS: number), 4 letter (0 .. 6, C first; METER: lower one)");
        Edge.cells("M:C\n", "[K:C#][K:Cb][K:C][M:32/32][M:none][M:1/1][L:1/1][L:1/64]Z16Z1Z", 3, 7, -7, 0, 32, 0, 1, 1, 64, 16, 1, 1);
        Edge.cells("M:C\n", "[M:32/32][M:1/1][M:C|][L:1/64][K:C#]Z2", 4, 32, 1, 2, 0, 0, 0);
        Edge.cells("", "CDEFGABcdefgab", 4, 0, 1, 2, 3, 4, 5, 6, 0, 1, 2, 3, 4, 5, 6);
    }

    private static void thingOfAChord() {
        Edge.sentence("9 notes of [ ] (of each; 1 alone, a GRACE, 0 no note), 10 its place there");
        Edge.cells("M:C\n", "C[D][EFG]{ab}zxZ|[K:C]", 9, 1, 1, 3, 3, 3, 1, 1, 0, 0, 0, 0, 0);
        Edge.cells("M:C\n", "C[D][EFG]{ab}zxZ|[K:C]", 10, 0, 0, 0, 1, 2, 0, 0, 0, 0, 0, 0, 0);
        Edge.askedMusic("", "[CDEFGABcdefg]", 12, x -> {
            Check.cells(x, 9, 0, 12, 12, 12, 12, 12, 12, 12, 12, 12, 12, 12, 12);
            Check.cells(x, 10, 0, 0, 1, 2, 3, 4, 5, 6, 7, 8, 9, 10, 11);
        });
    }

    private static void thingOfNoNote() {
        Edge.sentence("1 alone, a GRACE, 0 no note");
        Edge.askedMusic("M:C\n", "zxZ|", 4, x -> {
            for (int what = 4; what <= 15; what++) {
                Check.cells(x, what, 0, 0, 0, 0, 0);
            }
            Check.cells(x, 3, 0, 0, 0, 1, 0);
        });
    }

    private static void thingOrnaments() {
        Edge.sentence("11 ornaments (bits, as told: . ~ H T M P u v)");
        Edge.cells("", ".C~CHCTCMCPCuCvCC", 11, 1, 2, 4, 8, 16, 32, 64, 128, 0);
        Edge.cells("", ".~HTMPuvz", 11, 255);
        Edge.cells("", "..C", 11, 1);
        Edge.cells("", ".{c}D", 11, 0, 1);
    }

    private static void thingWords() {
        Edge.sentence("12 words above, and in ! !, before it");
        Edge.cells("", "C\"\"C!a!C\"a\"!a!\"a\"!b!CC", 12, 0, 1, 1, 4, 0);
        Edge.cells("", "!a!".repeat(300) + "C", 12, 300);
        Edge.cells("", "\"a\"{c}[CE]", 12, 0, 1, 0);
    }

    private static void thingSlurs() {
        Edge.sentence("13 slurs that begin before it, 14 that end behind it (that of the latest timed of all VOICES; 11 to 14 of [ ]: of its"
                + " first note)");
        Edge.cells("", "C((((CE))))C", 13, 0, 4, 0, 0);
        Edge.cells("", "C((((CE))))C", 14, 0, 0, 4, 0);
        Edge.cells("", "(([CE][CE]))", 13, 2, 0, 0, 0);
        Edge.cells("", "(([CE][CE]))", 14, 0, 0, 2, 0);
        Edge.cells("", "(C[V:2]D[V:1])E", 14, 0, 1, 0);
        Edge.cells("", "(C|{c}[K:C])E", 14, 1, 0, 0, 0, 0);
        Edge.cells("", "(C)()D", 14, 2, 0);
        Edge.cells("", "(C)()D", 13, 1, 1);
    }

    private static void thingEnding() {
        Edge.sentence("15 an ending (0)");
        Edge.cells("", "|1|2|3|4 | :|1:|4[1[4||C", 15, 1, 2, 3, 4, 0, 1, 4, 1, 4, 0, 0);
    }

    private static void thingPlace() {
        Edge.sentence("16 the place in the text.");
        Edge.asked("X:1\nT:a\nM:C\nK:C\n^C{__d}[=C_E] Z2 z||\nK:C\n[M:C]x", 10, x ->
                Check.cells(x, 16, 0, 16, 19, 24, 26, 30, 33, 34, 37, 41, 46));
        Edge.asked(filled("X:1\nT:a\nK:C\n", 1999) + "C", 1, x -> Check.due("the last byte", x.thing(0, 16), 1999));
    }

    private static String filled(String text, int size) {
        return text + " ".repeat(size - text.length());
    }

    private static void timeNone() {
        Edge.sentence("Its time in TICKS (0: none).");
        Edge.times("M:1/32\n", "C{c}|[K:C][M:C][L:1/8]zxZ", EIGHTH / 2, 0, 0, 0, 0, 0, EIGHTH, EIGHTH, 8 * EIGHTH);
    }

    private static void timeNoneSuch() {
        Edge.sentence("Its time in TICKS (0: none). BAD: none such.");
        int[] none = {-1, 2, 399, 400, LEAST, MOST};
        Edge.askedMusic("", "CD", 2, x -> {
            for (int i : none) {
                Check.due("time(" + i + ")", x.time(i), BAD);
            }
        });
        Edge.askedMusic("", "C".repeat(400), 400, x -> {
            Check.due("time(399)", x.time(399), EIGHTH);
            Check.due("time(400)", x.time(400), BAD);
        });
    }

    private static void startOfEach() {
        Edge.sentence("When it begins, in its VOICE.");
        Edge.askedMusic("M:C\nL:1/8\n", "|{c}C2|[EG][V:2]D[V:1]Z2|[K:C]z[V:2]|E", 13, x ->
                Check.starts(x, 0, 0, 0, 0, 2 * EIGHTH, 2 * EIGHTH, 2 * EIGHTH, 0, 3 * EIGHTH, 19 * EIGHTH, 19 * EIGHTH, 19 * EIGHTH,
                        EIGHTH, EIGHTH));
        Edge.askedMusic("M:32/1\n", "Z16|".repeat(18) + "Z12C", 38, x ->
                Check.due("the latest start of 300 MEASURES", x.start(37), 300L * 32 * 1290240));
        Edge.askedMusic("", "C>>>D<<<E F", 4, x -> Check.starts(x, 0, 0, 15 * EIGHTH / 8, 15 * EIGHTH / 8 + EIGHTH / 64,
                30 * EIGHTH / 8 + EIGHTH / 64));
    }

    private static void startNoneSuch() {
        Edge.sentence("When it begins, in its VOICE. BAD: none such.");
        int[] none = {-1, 2, 399, 400, LEAST, MOST};
        Edge.askedMusic("", "CD", 2, x -> {
            for (int i : none) {
                Check.due("start(" + i + ")", x.start(i), BAD);
            }
        });
        Edge.askedMusic("", "C".repeat(400), 400, x -> {
            Check.due("start(399)", x.start(399), 399 * EIGHTH);
            Check.due("start(400)", x.start(400), BAD);
        });
    }

    private static void measuresNoneSuch() {
        Edge.sentence("How many MEASURES a VOICE (1 .. 3) has; those that are begun, too. BAD: none such.");
        int[] none = {0, 4, -1, 5, LEAST, MOST};
        Edge.askedMusic("", "C|[V:2]C|C[V:3]C|C|C", 10, x -> {
            Check.due("measures(1)", x.measures(1), 1);
            Check.due("measures(2)", x.measures(2), 2);
            Check.due("measures(3)", x.measures(3), 3);
            for (int voice : none) {
                Check.due("measures(" + voice + ")", x.measures(voice), BAD);
            }
        });
        Edge.askedMusic("", "C", 1, x -> {
            Check.due("a VOICE that was not at hand", x.measures(3), 0);
            Check.due("measures(4)", x.measures(4), BAD);
        });
    }

    private static void fullNoneSuch() {
        Edge.sentence("Whether a MEASURE is FULL. BAD: none such.");
        Edge.askedMusic("M:1/8\nL:1/8\n", "C|C2[V:3]C2|C|C", 8, x -> {
            Check.due("full(1, 0)", x.full(1, 0), 1);
            Check.due("full(1, 1)", x.full(1, 1), 0);
            Check.due("full(3, 2)", x.full(3, 2), 1);
            int[][] none = {{1, 2}, {1, -1}, {1, 300}, {1, LEAST}, {1, MOST}, {2, 0}, {3, 3}, {0, 0}, {4, 0}, {-1, 0}, {LEAST, 0},
                {MOST, 0}};
            for (int[] one : none) {
                Check.due("full(" + one[0] + ", " + one[1] + ")", x.full(one[0], one[1]), BAD);
            }
        });
    }

    private static void lengthNoneSuch() {
        Edge.sentence("How long a MEASURE is, in TICKS. BAD: none such.");
        Edge.askedMusic("M:1/8\nL:1/8\n", "C|C2[V:3]C2|C|C", 8, x -> {
            Check.due("length(1, 0)", x.length(1, 0), EIGHTH);
            Check.due("length(1, 1)", x.length(1, 1), 2 * EIGHTH);
            Check.due("length(3, 2)", x.length(3, 2), EIGHTH);
            int[][] none = {{1, 2}, {1, -1}, {1, 300}, {1, LEAST}, {1, MOST}, {2, 0}, {3, 3}, {0, 0}, {4, 0}, {-1, 0}, {LEAST, 0},
                {MOST, 0}};
            for (int[] one : none) {
                Check.due("length(" + one[0] + ", " + one[1] + ")", x.length(one[0], one[1]), BAD);
            }
        });
        Edge.askedMusic("L:1/1\n", "C8".repeat(400), 400, x -> Check.due("the longest", x.length(1, 0), 400L * 8 * 1290240));
    }

    private static void playedHowMany() {
        Edge.sentence("The i-th MEASURE that is PLAYED; - 1: how many.");
        Edge.askedMusic("", "", 0, x -> {
            Check.due("played(-1)", x.played(-1), 0);
            Check.due("played(0)", x.played(0), BAD);
        });
        Edge.askedMusic("", "C|D:|", 4, x -> {
            Check.due("played(-1)", x.played(-1), 4);
            Check.due("played(0)", x.played(0), 0);
            Check.due("played(3)", x.played(3), 1);
            Check.due("played(4)", x.played(4), BAD);
        });
    }

    private static void playedNoneSuch() {
        Edge.sentence("- 1: how many. BAD: none such, no tune.");
        int[] none = {2, 3, -2, -3, 999, 1000, LEAST, MOST};
        Edge.askedMusic("", "C|D", 3, x -> {
            for (int i : none) {
                Check.due("played(" + i + ")", x.played(i), BAD);
            }
        });
        AbcForms x = new AbcForms(0);
        Check.due("played(-1) of a new object", x.played(-1), BAD);
        Check.due("played(0) of a new object", x.played(0), BAD);
    }

    private static void spelled(int rule, String heads, String music, String... wanted) {
        Edge.asked(rule, Check.tune(heads, music), wanted.length, x -> {
            for (int i = 0; i < wanted.length; i++) {
                if (wanted[i].isEmpty()) {
                    for (int k = -2; k <= 2; k++) {
                        Check.due("written(" + i + ", " + k + ")", x.written(i, k), BAD);
                    }
                } else {
                    Check.spelled(x, i, wanted[i]);
                }
            }
        });
    }

    private static void spelled(String heads, String music, String... wanted) {
        spelled(0, heads, music, wanted);
        spelled(1, heads, music, wanted);
    }

    private static void writtenSign() {
        Edge.sentence("its sign, if it would be another without;");
        spelled("", "^^c^c=c_c__c", "^^c", "^c", "=c", "_c", "__c");
        spelled("", "=c^c^c|^c=d", "c", "^c", "c", "", "^c", "d");
        spelled("", "[K:D]^f=f^f|f=c", "", "f", "=f", "^f", "", "f", "=c");
        spelled("", "^c-|^c|=c-|c", "^c", "", "c", "", "c", "", "c");
        spelled("", "^c-|=c", "^c", "", "=c");
        spelled("", "{^c}^c", "", "c");
        spelled("", "[^c^c_c]", "^c", "c", "_c");
        spelled(0, "", "^c^C=C=c", "^c", "C", "=C", "c");
        spelled(1, "", "^c^C=C=c", "^c", "^C", "=C", "=c");
    }

    private static void writtenLetterAndOctave() {
        Edge.sentence("letter and octave;");
        spelled("", "C,,,,,C,Ccc'c''''", "C,,,,,", "C,", "C", "c", "c'", "c''''");
        spelled("", "C'c,C',c,'B'b,", "c", "C", "C", "c", "b", "B");
        spelled("", "^^B,,,,,,g''''", "^^B,,,,,,", "g''''");
        spelled("", "AGag", "A", "G", "a", "g");
    }

    private static void writtenLength() {
        Edge.sentence("n, n/m in lowest terms, 1 not written, /m for 1/m, / for 1/2, n/ for n/2;");
        spelled("", "CC1C2C9C10C63C64", "C", "C", "C2", "C9", "C10", "C63", "C64");
        spelled("", "C/ C/2C//C/8C/16C/32C/64", "C/", "C/", "C/4", "C/8", "C/16", "C/32", "C/64");
        spelled("", "C3/ C3/2C63/2C6/4C64/64C64/ C2/4C4/64", "C3/", "C3/", "C63/", "C3/", "C", "C32", "C/", "C/16");
        spelled("", "C3/4C63/64C62/64C33/32", "C3/4", "C63/64", "C31/32", "C33/32");
    }

    private static void writtenNoSuchOne() {
        Edge.sentence("if it is no such one of 64 at most: BAD for all k.");
        spelled("L:1/64\n", "[C32]2[C13]5[C64]2[C64]8", "C64", "", "", "");
        spelled("", "[C/32]/2[C/64]/2[C/64]/8[C3/64]/[C2/64]/", "C/64", "", "", "", "C/64");
        spelled("", "[C9/64]7[C13/64]5[C16/64]4[C5/64]13", "C63/64", "", "C", "");
        spelled("", "[C64E]/[CE64]/64", "C32", "E/", "C/64", "E");
        spelled("L:1/64\n", "[CE11]6", "C6", "");
        Edge.askedMusic("L:1/64\n", "[C13]5", 1, x -> {
            int[] all = {-1, 0, 1, 2, -2, LEAST, MOST};
            for (int k : all) {
                Check.due("written(0, " + k + ")", x.written(0, k), BAD);
            }
        });
    }

    private static void writtenByTheUnitThere() {
        Edge.sentence("its length by the UNIT there");
        spelled("L:1/1\n", "C8C/64[L:1/64]C64C/64[V:2]C[L:1/2]C[V:1]C", "C8", "C/64", "", "C64", "C/64", "C", "", "C", "C");
        spelled("M:2/4\n", "C2", "C2");
        spelled("M:2/4\nL:1/8\n", "[M:C]C2", "", "C2");
    }

    private static void writtenTimeAsItIs() {
        Edge.sentence("(Its time as it is, without TUPLET and the like.)");
        spelled("", "(2CD(4CDEF", "C3/", "D3/", "C3/4", "D3/4", "E3/4", "F3/4");
        spelled("", "(3CDE(3C3D3/2E3/", "", "", "", "C2", "D", "E");
        spelled("", "(5CDEFG", "", "", "", "", "");
        spelled("", "C>D C<<D C>>>D", "C3/", "D/", "C/4", "D7/4", "C15/8", "D/8");
        spelled("", "C/8>>>D/8", "C15/64", "D/64");
        spelled("", "C/16>>>D/16", "", "");
        spelled("", "[C2E]>D", "C3", "E3/", "D/");
    }

    private static void writtenNoNote() {
        Edge.sentence("BAD: no NOTE, no such k.");
        spelled("M:C\n", "{C}zxZ|[K:C][M:C][L:1/8]C", "", "", "", "", "", "", "", "", "C");
        int[] none = {-1, 1, 399, 400, LEAST, MOST};
        Edge.askedMusic("", "C", 1, x -> {
            for (int i : none) {
                Check.due("written(" + i + ", -1)", x.written(i, -1), BAD);
                Check.due("written(" + i + ", 0)", x.written(i, 0), BAD);
            }
        });
    }

    private static void writtenNoSuchK() {
        Edge.sentence("as bytes, k of them; - 1: how many");
        Edge.askedMusic("", "C__B,,,,,63/64", 2, x -> {
            Check.due("written(0, -1)", x.written(0, -1), 1);
            Check.due("written(0, 0)", x.written(0, 0), 'C');
            int[] wrong = {1, 2, -2, LEAST, MOST};
            for (int k : wrong) {
                Check.due("written(0, " + k + ")", x.written(0, k), BAD);
            }
            Check.due("written(1, -1)", x.written(1, -1), 13);
            Check.due("written(1, 0)", x.written(1, 0), '_');
            Check.due("written(1, 12)", x.written(1, 12), '4');
            Check.due("written(1, 13)", x.written(1, 13), BAD);
        });
        // The longest that there is: a sign of two, six marks, and a length of five.
        spelled("", "^^B,,,,,,63/64", "^^B,,,,,,63/64");
    }
}
