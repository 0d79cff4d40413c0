/** The boundary cases of Terms, part 3: VOICES and their MEASURES. */
public final class EdgesOfMeasuresTest {
    private static final long EIGHTH = 161280;
    private static final String METER = "M:4/4\n";
    private static final String ALL_BUT_ONE = ended(299);
    private static final String ALL = ended(300);

    public static void main(String[] args) {
        eachVoiceHasItsOwn();
        aChangeIsOfTheVoiceAtHand();
        threeHundredAtMost();
        oneMoreOfATimed();
        oneMoreOfAZ();
        aheadOfAllElseInIt();
        allButTheFirstOfAZ();
        eachVoiceHas300();
        whatBeginsNone();
        numberedFrom0();
        aBarEndsOne();
        aBarWithoutSomethingTimed();
        zEndsAllOfItsButTheLast();
        aMeasureThatIsBegun();
        timeOfAMeasure();
        fullByTheMeterWhenItBegan();
        withoutMeterAlwaysFull();
        aBarIsOfTheMeasureThatItEnds();
        Check.finish();
    }

    /** So many MEASURES (19 .. 304), all of which have ended, by 38 THINGS. */
    private static String ended(int many) {
        StringBuilder b = new StringBuilder();
        for (int i = 0; i < 19; i++) {
            b.append('Z').append(many * (i + 1) / 19 - many * i / 19).append('|');
        }
        return b.toString();
    }

    private static void judged(AbcForms x, int voice, int measure, int full, long length) {
        Check.due("full(" + voice + ", " + measure + ")", x.full(voice, measure), full);
        Check.due("length(" + voice + ", " + measure + ")", x.length(voice, measure), length);
    }

    private static void counted(String heads, String music, int things, int... measures) {
        Edge.askedMusic(heads, music, things, x -> {
            for (int voice = 1; voice <= 3; voice++) {
                Check.due("measures(" + voice + ")", x.measures(voice), measures[voice - 1]);
            }
        });
    }

    private static void eachVoiceHasItsOwn() {
        Edge.sentence("Each VOICE (1 at first) has its own time, KEY, METER, UNIT (those of the heads;");
        Edge.asked("X:1\nT:a\nM:2/4\nL:1/4\nK:G\nFF|[V:2]F|[V:3]F[V:1]F[V:2]F[V:3]F", 9, x -> {
            Check.cells(x, 1, 0, 1, 1, 1, 2, 2, 3, 1, 2, 3);
            Check.cells(x, 6, 0, 1, 1, 0, 1, 0, 1, 1, 1, 1);
            Check.times(x, 0, 2 * EIGHTH, 2 * EIGHTH, 0, 2 * EIGHTH, 0, 2 * EIGHTH, 2 * EIGHTH, 2 * EIGHTH, 2 * EIGHTH);
            Check.starts(x, 0, 0, 2 * EIGHTH, 4 * EIGHTH, 0, 2 * EIGHTH, 0, 4 * EIGHTH, 2 * EIGHTH, 2 * EIGHTH);
            Check.cells(x, 2, 0, 0, 0, 0, 0, 0, 0, 1, 1, 0);
            judged(x, 1, 0, 1, 4 * EIGHTH);
            judged(x, 2, 0, 0, 2 * EIGHTH);
            judged(x, 3, 0, 1, 4 * EIGHTH);
        });
    }

    private static void aChangeIsOfTheVoiceAtHand() {
        Edge.sentence("a change is of the VOICE that is at hand)");
        Edge.asked("X:1\nT:a\nM:2/4\nL:1/4\nK:G\n[V:2][K:F][M:1/8][L:1/8]\nV:1\nF\nV:2\nF\nV:3\nF", 6, x -> {
            Check.cells(x, 1, 0, 2, 2, 2, 1, 2, 3);
            Check.cells(x, 6, 3, 1, 0, 1);
            Check.times(x, 3, 2 * EIGHTH, EIGHTH, 2 * EIGHTH);
            judged(x, 1, 0, 0, 2 * EIGHTH);
            judged(x, 2, 0, 1, EIGHTH);
            judged(x, 3, 0, 0, 2 * EIGHTH);
            Check.due("the heads' SIGNS", x.head(6), 1);
            Check.due("the heads' meter", x.head(2), 2);
            Check.due("the heads' unit", x.head(4), 4);
        });
    }

    private static void threeHundredAtMost() {
        Edge.sentence("MEASURES (300 at most");
        counted(METER, ALL_BUT_ONE, 38, 299, 0, 0);
        counted(METER, ALL, 38, 300, 0, 0);
        counted(METER, ALL_BUT_ONE + "C", 39, 300, 0, 0);
        counted(METER, ALL_BUT_ONE + "C D z | |", 43, 300, 0, 0);
        Edge.askedMusic(METER, ALL_BUT_ONE + "C|", 40, x -> {
            judged(x, 1, 298, 1, 8 * EIGHTH);
            judged(x, 1, 299, 0, EIGHTH);
            judged(x, 1, 300, AbcForms.BAD, AbcForms.BAD);
            Check.due("all are PLAYED", x.played(-1), 300);
            Check.due("the last one is PLAYED", x.played(299), 299);
            Check.cells(x, 2, 38, 299, 299);
        });
    }

    private static void oneMoreOfATimed() {
        Edge.sentence("FAULT 2 at the first byte of the timed or Z that begins one more");
        String[] timed = {"C", "^C", "c'2-", "z", "x", "[CE]", "[_C]"};
        for (String one : timed) {
            int things = one.equals("[CE]") ? 2 : 1;
            Edge.letMusic(METER, ALL_BUT_ONE + one, 38 + things);
            Edge.refusedMusic(METER, ALL + one, 2, ALL.length());
            Edge.refusedMusic(METER, ALL + " | {c}" + one, 2, ALL.length() + 6);
            Edge.refusedMusic(METER, ALL_BUT_ONE + "C|" + one, 2, ALL_BUT_ONE.length() + 2);
        }
        Edge.letMusic(METER, ALL.substring(0, ALL.length() - 1) + "C[CE]z", 41);
    }

    private static void oneMoreOfAZ() {
        Edge.sentence("FAULT 2 at the first byte of the timed or Z that begins one more");
        Edge.letMusic(METER, ALL_BUT_ONE + "Z", 39);
        Edge.letMusic(METER, ALL_BUT_ONE + "Z1|", 40);
        Edge.refusedMusic(METER, ALL + "Z", 2, ALL.length());
        Edge.refusedMusic(METER, ALL + " Z1", 2, ALL.length() + 1);
        Edge.letMusic(METER, ALL_BUT_ONE + "C Z", 40);
        Edge.refusedMusic(METER, ALL_BUT_ONE + "C | Z", 2, ALL_BUT_ONE.length() + 4);
    }

    private static void aheadOfAllElseInIt() {
        Edge.sentence("ahead of all else in it");
        String[] wrong = {"^", "^?", "C,,,,,,", "C0", "C65", "z0", "x/3", "[", "[]", "[?", "[C", "[CDEFGABcdefga]", "Z0", "Z17"};
        for (String one : wrong) {
            Edge.refusedMusic(METER, ALL + one, 2, ALL.length());
        }
        Edge.refusedMusic(METER, ALL + "[M:none]Z", 2, ALL.length() + 8);
        Edge.refusedMusic(METER, ALL + " |".repeat(362) + "[C]", 2, ALL.length() + 724);
        Edge.refusedMusic(METER, ALL_BUT_ONE + " |".repeat(362) + "[C]", 2, ALL_BUT_ONE.length() + 725);
        Edge.refusedMusic(METER, ALL + "{?", 1, ALL.length() + 1);
        Edge.refusedMusic(METER, ALL + "(0", 1, ALL.length() + 1);
        Edge.refusedMusic(METER, ALL + "[5", 2, ALL.length());
    }

    private static void allButTheFirstOfAZ() {
        Edge.sentence("of a Z all but its first one when its number was read)");
        for (int left = 1; left <= 15; left++) {
            String before = ended(300 - left);
            counted(METER, before + "Z" + left, 39, 300, 0, 0);
            Edge.refusedMusic(METER, before + "Z" + (left + 1), 2, before.length());
            Edge.refusedMusic(METER, before + "Z16", 2, before.length());
            Edge.refusedMusic(METER, before + "Z17", 1, before.length() + 1);
            Edge.refusedMusic(METER, before + "Z0", 1, before.length() + 1);
            counted(METER, before + "C Z" + left, 40, 300, 0, 0);
            Edge.refusedMusic(METER, before + "C Z" + (left + 1), 2, before.length() + 2);
        }
        counted(METER, ended(284) + "Z16", 39, 300, 0, 0);
        Edge.refusedMusic(METER, ended(284) + "C | Z16", 2, ended(284).length() + 4);
        Edge.refusedMusic(METER, ALL_BUT_ONE + "C Z2", 2, ALL_BUT_ONE.length() + 2);
        Edge.refusedMusic(METER, ALL_BUT_ONE + "C Z2?", 2, ALL_BUT_ONE.length() + 2);
    }

    private static void eachVoiceHas300() {
        Edge.sentence("and MEASURES (300 at most");
        String second = "[V:2]" + ALL;
        counted(METER, ALL + second, 76, 300, 300, 0);
        counted(METER, ALL + second + "[V:3]" + ALL, 114, 300, 300, 300);
        Edge.refusedMusic(METER, ALL + second + "C", 2, ALL.length() + second.length());
        Edge.letMusic(METER, ALL + second + "[V:3]C", 77);
        Edge.refusedMusic(METER, second + "[V:1]C|[V:2]C", 2, second.length() + 12);
    }

    private static void whatBeginsNone() {
        Edge.sentence("a BAR with something timed since the last one ends one");
        counted(METER, ALL + "{c}[K:C][M:C][L:1/8] | || .~\"x\"!y!()", 44, 300, 0, 0);
        counted(METER, "{c}[K:C]| {c}|", 5, 0, 0, 0);
        counted(METER, "{c}[K:C]C| {c}|", 6, 1, 0, 0);
        counted(METER, "V:3\n{c}", 1, 0, 0, 0);
    }

    private static void numberedFrom0() {
        Edge.sentence("numbered from 0 on;");
        Edge.cells(METER, "C|D|z[V:2]x|C", 2, 0, 0, 1, 1, 2, 0, 0, 1);
        Edge.cells(METER, "Z2|Z|C", 2, 0, 1, 2, 2, 3);
    }

    private static void aBarEndsOne() {
        Edge.sentence("a BAR with something timed since the last one ends one");
        String[] bars = {"|", "||", "|]", "[|", "|:", ":|", "::", "|1", ":|2", "[3"};
        for (String bar : bars) {
            counted(METER, " C" + bar + " D", 3, 2, 0, 0);
            counted(METER, " z" + bar + " x", 3, 2, 0, 0);
            counted(METER, "[V:2]C" + bar + "[V:3]D" + bar, 4, 0, 1, 1);
        }
        counted(METER, "C D\nE\nV:1\nF", 4, 1, 0, 0);
    }

    private static void aBarWithoutSomethingTimed() {
        Edge.sentence("a BAR with something timed since the last one ends one");
        counted(METER, "| || |: :|", 4, 0, 0, 0);
        counted(METER, "| C | || |: D :| |", 8, 2, 0, 0);
        counted(METER, "C|[V:2]D[V:1]|", 4, 1, 1, 0);
        counted(METER, "C|[V:2]|[V:1]D", 4, 2, 0, 0);
    }

    private static void zEndsAllOfItsButTheLast() {
        Edge.sentence("Z ends all of its but the last one, which the next BAR ends.");
        Edge.askedMusic(METER, "Z3|C", 3, x -> {
            Check.cells(x, 2, 0, 0, 2, 3);
            Check.due("measures(1)", x.measures(1), 4);
        });
        Edge.askedMusic(METER, "Z3C|D", 4, x -> {
            Check.cells(x, 2, 0, 0, 2, 2, 3);
            judged(x, 1, 1, 1, 8 * EIGHTH);
            judged(x, 1, 2, 0, 9 * EIGHTH);
        });
        Edge.askedMusic(METER, "Z|Z", 3, x -> Check.cells(x, 2, 0, 0, 0, 1));
        Edge.askedMusic(METER, "Z16", 1, x -> {
            Check.due("measures(1)", x.measures(1), 16);
            judged(x, 1, 0, 1, 8 * EIGHTH);
            judged(x, 1, 15, 1, 8 * EIGHTH);
            judged(x, 1, 16, AbcForms.BAD, AbcForms.BAD);
        });
    }

    private static void aMeasureThatIsBegun() {
        Edge.sentence("How many MEASURES a VOICE (1 .. 3) has; those that are begun, too.");
        counted(METER, "", 0, 0, 0, 0);
        counted(METER, "C", 1, 1, 0, 0);
        counted(METER, "C|", 2, 1, 0, 0);
        counted(METER, "C|D", 3, 2, 0, 0);
        counted(METER, "C[V:2]D|E[V:3]z", 5, 1, 2, 1);
        Edge.askedMusic(METER, "C8|D", 3, x -> {
            judged(x, 1, 0, 1, 8 * EIGHTH);
            judged(x, 1, 1, 0, EIGHTH);
            judged(x, 1, 2, AbcForms.BAD, AbcForms.BAD);
        });
    }

    private static void timeOfAMeasure() {
        Edge.sentence("A MEASURE has the time of its timed (of [ ] that of the first; each one of a Z a METER)");
        Edge.askedMusic("M:2/4\nL:1/8\n", "Cz/x/{c4}(3CDE|[C4E8]|[CE4]3>D|Z2|C>D<E", 20, x -> {
            judged(x, 1, 0, 1, 4 * EIGHTH);
            judged(x, 1, 1, 1, 4 * EIGHTH);
            judged(x, 1, 2, 0, 5 * EIGHTH);
            judged(x, 1, 3, 1, 4 * EIGHTH);
            judged(x, 1, 4, 1, 4 * EIGHTH);
            judged(x, 1, 5, 0, 13 * EIGHTH / 4);
        });
    }

    private static void fullByTheMeterWhenItBegan() {
        Edge.sentence("it is FULL, if that is just the METER that its VOICE had when it began (its first timed;");
        Edge.askedMusic("M:2/4\nL:1/8\n", "C4|C3|C5|C63/16|C64/16|C3C/64|C4C/64", 15, x -> {
            judged(x, 1, 0, 1, 4 * EIGHTH);
            judged(x, 1, 1, 0, 3 * EIGHTH);
            judged(x, 1, 2, 0, 5 * EIGHTH);
            judged(x, 1, 3, 0, 63 * EIGHTH / 16);
            judged(x, 1, 4, 1, 4 * EIGHTH);
            judged(x, 1, 5, 0, 3 * EIGHTH + EIGHTH / 64);
            judged(x, 1, 6, 0, 4 * EIGHTH + EIGHTH / 64);
        });
        Edge.askedMusic("M:2/4\nL:1/8\n", "C2[M:3/4]C2|{c}[M:1/4]C2|[M:3/4]|C6[M:2/4]|C4", 14, x -> {
            judged(x, 1, 0, 1, 4 * EIGHTH);
            judged(x, 1, 1, 1, 2 * EIGHTH);
            judged(x, 1, 2, 1, 6 * EIGHTH);
            judged(x, 1, 3, 1, 4 * EIGHTH);
        });
        Edge.askedMusic("M:2/4\nL:1/8\n", "C4[V:2][M:3/4]C6[V:1]|C4", 5, x -> {
            judged(x, 1, 0, 1, 4 * EIGHTH);
            judged(x, 2, 0, 1, 6 * EIGHTH);
            judged(x, 1, 1, 1, 4 * EIGHTH);
        });
        Edge.askedMusic("M:32/1\nL:1/1\n", "C8C8C8C8|C8C8C8C7", 9, x -> {
            judged(x, 1, 0, 1, 256 * EIGHTH);
            judged(x, 1, 1, 0, 248 * EIGHTH);
        });
        Edge.askedMusic("M:1/32\nL:1/32\n", "C|C/C/|C/", 6, x -> {
            judged(x, 1, 0, 1, EIGHTH / 4);
            judged(x, 1, 1, 1, EIGHTH / 4);
            judged(x, 1, 2, 0, EIGHTH / 8);
        });
    }

    private static void withoutMeterAlwaysFull() {
        Edge.sentence("none: always FULL)");
        Edge.askedMusic("", "C|C64|C/64", 5, x -> {
            judged(x, 1, 0, 1, EIGHTH);
            judged(x, 1, 1, 1, 64 * EIGHTH);
            judged(x, 1, 2, 1, EIGHTH / 64);
        });
        Edge.askedMusic("M:2/4\nL:1/8\n", "[M:none]C[M:2/4]C|C[M:none]C|C[V:2]C", 11, x -> {
            judged(x, 1, 0, 1, 2 * EIGHTH);
            judged(x, 1, 1, 0, 2 * EIGHTH);
            judged(x, 1, 2, 1, EIGHTH);
            judged(x, 2, 0, 0, EIGHTH);
        });
    }

    private static void aBarIsOfTheMeasureThatItEnds() {
        Edge.sentence("A BAR is of the MEASURE that it ends, or of the next one.");
        Edge.cells(METER, "| C | | D || |: E", 2, 0, 0, 0, 1, 1, 1, 2, 2);
        Edge.cells(METER, "| | |", 2, 0, 0, 0);
        Edge.cells(METER, "Z3 | | C", 2, 0, 2, 3, 3);
        Edge.cells(METER, "[V:2]| C | [V:1] | [V:2] |", 2, 0, 0, 0, 0, 1);
        Edge.askedMusic(METER, ALL + " |", 39, x -> Check.cells(x, 2, 37, 299, 300));
        Edge.askedMusic(METER, ALL_BUT_ONE + " | C | |", 42, x -> Check.cells(x, 2, 37, 298, 299, 299, 299, 300));
    }
}
