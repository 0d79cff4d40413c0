/** The boundary cases of Terms, part 2: TICKS, lengths, TUPLETS and broken rhythm. */
public final class EdgesOfTimesTest {
    private static final long WHOLE = 1290240;
    private static final long EIGHTH = WHOLE / 8;
    /** The least time that a length can tell: 1/64 of 1/64. */
    private static final long LEAST = 315;
    private static final String WHOLES = "L:1/1\n";
    private static final String SMALL = "L:1/64\n";

    public static void main(String[] args) {
        ticksOfAWhole();
        eightWholesAtMost();
        aWholeNumberOfTicks();
        butAZs();
        atTheFirstSuchNote();
        whenAllOfTheTimedWasRead();
        withItsTuplet();
        withWhatIsBeforeIt();
        againWhenOneBehindChangesIt();
        numbers1To64();
        behindASlash();
        nothingBehindASlash();
        wrongLengths();
        chordsTimes();
        tupletsP();
        tupletsDigit0And1();
        tupletsQ();
        tupletsR();
        tupletsOverVoices();
        tupletsWithoutQ();
        tupletsOneInAnother();
        tupletsNotFull();
        brokenOnceToThreeTimes();
        brokenWithBlanksAlone();
        brokenNotRightBehindATimed();
        brokenBeginsNoTimed();
        brokenOrder();
        brokenChords();
        Check.finish();
    }

    private static void ticksOfAWhole() {
        Edge.sentence("TICKS: 1,290,240 are a whole");
        Edge.times(WHOLES, "C z x [CE]", WHOLE, WHOLE, WHOLE, WHOLE, WHOLE);
        Edge.times("M:1/1\n", "Z", WHOLE);
    }

    private static void eightWholesAtMost() {
        Edge.sentence("each time (but a Z's) is a whole number of TICKS above 0, 8 wholes at most: else FAULT 4 at the THING");
        String[] timed = {"C", "z", "x", "[C]", "[CE]"};
        int[] place = {0, 0, 0, 1, 1};
        for (int i = 0; i < timed.length; i++) {
            int many = i == 4 ? 2 : 1;
            Edge.letMusic(WHOLES, timed[i] + "8", many);
            Edge.letMusic(WHOLES, timed[i] + "16/", many);
            Edge.letMusic(WHOLES, timed[i] + "64/8", many);
            Edge.refusedMusic(WHOLES, "D " + timed[i] + "9", 4, 2 + place[i]);
            Edge.refusedMusic(WHOLES, "D " + timed[i] + "17/2", 4, 2 + place[i]);
            Edge.refusedMusic(WHOLES, "D " + timed[i] + "33/4", 4, 2 + place[i]);
            Edge.refusedMusic(WHOLES, "D " + timed[i] + "64", 4, 2 + place[i]);
        }
        Edge.times(WHOLES, "C8 C63/8", 8 * WHOLE, 63 * WHOLE / 8);
        Edge.times("L:1/8\n", "C64", 8 * WHOLE);
        Edge.refusedMusic("L:1/4\n", "C33", 4, 0);
        Edge.letMusic("L:1/4\n", "C32", 1);
        Edge.refusedMusic(WHOLES, "[C64E]64", 4, 1);
    }

    private static void aWholeNumberOfTicks() {
        Edge.sentence("is a whole number of TICKS above 0");
        Edge.times(SMALL, "C/64 z/64 x////// [C/8]/8", LEAST, LEAST, LEAST, LEAST);
        Edge.refusedMusic(SMALL, "C [D/64]/2", 4, 3);
        Edge.refusedMusic(SMALL, "C [D/64]/64", 4, 3);
        Edge.refusedMusic(SMALL, "C [D/2]/64", 4, 3);
        Edge.letMusic(SMALL, "C [D/64]2/2", 2);
        Edge.times(SMALL, "(9:1:1 C/64 (7:1:1 C/64 (5:1:1 C/64 (3:1:1 C/64", LEAST / 9, LEAST / 7, LEAST / 5, LEAST / 3);
        Edge.refusedMusic(SMALL, "(2:1:1 C/64", 4, 7);
        Edge.refusedMusic(SMALL, "(4:1:1 C/32", 4, 7);
        Edge.refusedMusic(SMALL, "(6:1:1 C/64", 4, 7);
        Edge.refusedMusic(SMALL, "(8:1:1 C/16", 4, 7);
        Edge.times(SMALL, "(2:1:1 C/32 (4:1:1 C/16 (6:1:1 C/32 (8:1:1 C/8", LEAST, LEAST, LEAST / 3, LEAST);
    }

    private static void butAZs() {
        Edge.sentence("each time (but a Z's)");
        Edge.times("M:8/1\n", "Z Z2", 8 * WHOLE, 16 * WHOLE);
        Edge.times("M:9/1\n", "Z", 9 * WHOLE);
        Edge.times("M:32/1\n", "Z16", 16 * 32 * WHOLE);
    }

    private static void atTheFirstSuchNote() {
        Edge.sentence("(of [ ]: at the first such note)");
        Edge.refusedMusic(WHOLES, "[C9EG]", 4, 1);
        Edge.refusedMusic(WHOLES, "[CE9G]", 4, 2);
        Edge.refusedMusic(WHOLES, "[CEG9]", 4, 3);
        Edge.refusedMusic(WHOLES, "[C8^E9_G9]", 4, 3);
        Edge.refusedMusic(WHOLES, "[C4E5G4]2", 4, 3);
        Edge.letMusic(WHOLES, "[C4E4G4]2", 3);
        Edge.refusedMusic(SMALL, "[CE/64]/2", 4, 2);
        Edge.letMusic(SMALL, "[CE/32]/2", 2);
        Edge.refusedMusic(WHOLES, "[C^E6]>D", 4, 2);
        Edge.refusedMusic(WHOLES, "D<[C^E6]", 4, 4);
    }

    private static void whenAllOfTheTimedWasRead() {
        Edge.sentence("when all of the timed was read");
        Edge.refusedMusic(WHOLES, "C9?", 4, 0);
        Edge.refusedMusic(WHOLES, "C9-?", 4, 0);
        Edge.refusedMusic(WHOLES, "C9/3", 1, 3);
        Edge.letMusic(WHOLES, "C9/2", 1);
        Edge.refusedMusic(WHOLES, "[C9?]", 1, 3);
        Edge.refusedMusic(WHOLES, "[C9E", 1, 4);
        Edge.refusedMusic(WHOLES, "[C9]0", 1, 4);
        Edge.refusedMusic(WHOLES, "[C9]3/3", 1, 6);
        Edge.letMusic(WHOLES, "[C9]/2", 1);
        Edge.refusedMusic(WHOLES, "[C9Eg''''']", 4, 4);
        Edge.refusedMusic(WHOLES, "[C9E]-?", 4, 1);
        Edge.refusedMusic(WHOLES, "[C9E0]", 1, 4);
        Edge.refusedMusic(WHOLES, "z9-", 4, 0);
    }

    private static void withItsTuplet() {
        Edge.sentence("(with its TUPLET and what > or < before it does)");
        Edge.times(WHOLES, "(3C12D9E8", 8 * WHOLE, 6 * WHOLE, 16 * WHOLE / 3);
        Edge.refusedMusic(WHOLES, "(3CD13E", 4, 3);
        Edge.times(WHOLES, "(2C5D5", 15 * WHOLE / 2, 15 * WHOLE / 2);
        Edge.refusedMusic(WHOLES, "(2C5D6", 4, 4);
        Edge.refusedMusic(WHOLES, "(2[C5E6]D", 4, 5);
        Edge.times(WHOLES, "(2:9:1 C (9:1:1 C64", 9 * WHOLE / 2, 64 * WHOLE / 9);
        Edge.refusedMusic(WHOLES, "(2:9:1 C2", 4, 7);
        Edge.letMusic(WHOLES, "(3:9:1 C (8:9:1C7", 2);
        Edge.refusedMusic(WHOLES, "(8:9:1 C8", 4, 7);
    }

    private static void withWhatIsBeforeIt() {
        Edge.sentence("(with its TUPLET and what > or < before it does)");
        Edge.times(WHOLES, "C>D16", 3 * WHOLE / 2, 8 * WHOLE);
        Edge.refusedMusic(WHOLES, "C>D17", 4, 2);
        Edge.times(WHOLES, "C<D5", WHOLE / 2, 15 * WHOLE / 2);
        Edge.refusedMusic(WHOLES, "C<D6", 4, 2);
        Edge.times(WHOLES, "C>>>D64", 15 * WHOLE / 8, 8 * WHOLE);
        Edge.refusedMusic(WHOLES, "C<<<D5", 4, 4);
        Edge.letMusic(WHOLES, "C<<<D4", 2);
        Edge.refusedMusic(SMALL, "C>D/64", 4, 2);
        Edge.times(SMALL, "C>D/32", 30240, LEAST);
        Edge.times(SMALL, "C>>>D/8", 37800, LEAST);
        Edge.refusedMusic(SMALL, "C>>>D/16", 4, 4);
        Edge.times(WHOLES, "(3C>D24E", WHOLE, 8 * WHOLE, 2 * WHOLE / 3);
        Edge.refusedMusic(WHOLES, "(3C>D25E", 4, 4);
    }

    private static void againWhenOneBehindChangesIt() {
        Edge.sentence("and again when a > or < behind changes it.");
        Edge.times(WHOLES, "C5>D", 15 * WHOLE / 2, WHOLE / 2);
        Edge.refusedMusic(WHOLES, "E C6>D", 4, 2);
        Edge.times(WHOLES, "(3C8>DE", 8 * WHOLE, WHOLE / 3, 2 * WHOLE / 3);
        Edge.refusedMusic(WHOLES, "(3C9>DE", 4, 2);
        Edge.refusedMusic(WHOLES, "C8>D", 4, 0);
        Edge.refusedMusic(WHOLES, "z6>D", 4, 0);
        Edge.times(WHOLES, "C8<D", 4 * WHOLE, 3 * WHOLE / 2);
        Edge.refusedMusic(SMALL, "E C/64>D", 4, 2);
        Edge.refusedMusic(SMALL, "E C/64<D", 4, 2);
        Edge.times(SMALL, "C/32<D C/32>D", LEAST, 30240, 3 * LEAST, 10080);
        Edge.times(SMALL, "C/8<<<D", LEAST, 37800);
        Edge.refusedMusic(SMALL, "C/16<<<D", 4, 0);
        Edge.refusedMusic(SMALL, "C>D/32>E", 4, 2);
        Edge.times(SMALL, "C>D/16>E", 30240, 3 * LEAST, 10080);
    }

    private static void numbers1To64() {
        Edge.sentence("numbers 1 .. 64");
        for (int number = 0; number <= 70; number++) {
            long time = WHOLE / 64 * number;
            if (number >= 1 && number <= 64) {
                Edge.times(SMALL, "C" + number + "[C" + number + "][C]" + number + "z" + number + "x" + number + "{C"
                        + number + "}", time, time, time, time, time, 0);
                Edge.times(SMALL, "C" + number + "/4", time / 4);
            } else {
                Edge.refusedMusic(SMALL, "C" + number, 1, 1);
                Edge.refusedMusic(SMALL, "[C" + number + "]", 1, 2);
                Edge.refusedMusic(SMALL, "[C]" + number, 1, 3);
                Edge.refusedMusic(SMALL, "z" + number, 1, 1);
                Edge.refusedMusic(SMALL, "x" + number, 1, 1);
                Edge.refusedMusic(SMALL, "{C" + number + "}", 1, 2);
                Edge.refusedMusic(SMALL, "C" + number + "/3", 1, 1);
            }
        }
        Edge.refusedMusic("", "C4294967297", 1, 1);
        Edge.refusedMusic("", "C99999999999999999999", 1, 1);
    }

    private static void behindASlash() {
        Edge.sentence("behind a / one of 1, 2, 4 .. 64");
        for (int lower = 0; lower <= 130; lower++) {
            if (lower >= 1 && lower <= 64 && Integer.bitCount(lower) == 1) {
                long time = EIGHTH / lower;
                Edge.times("", "C/" + lower + "[C/" + lower + "][C]/" + lower + "z/" + lower + "x1/" + lower + "{C/" + lower
                        + "}C3/" + lower, time, time, time, time, time, 0, 3 * time);
            } else {
                Edge.refusedMusic("", "C/" + lower, 1, 2);
                Edge.refusedMusic("", "C3/" + lower, 1, 3);
                Edge.refusedMusic("", "[C/" + lower + "]", 1, 3);
                Edge.refusedMusic("", "[C]/" + lower, 1, 4);
                Edge.refusedMusic("", "z/" + lower, 1, 2);
                Edge.refusedMusic("", "{C/" + lower + "}", 1, 3);
            }
        }
        Edge.refusedMusic("", "C/4294967297", 1, 2);
    }

    private static void nothingBehindASlash() {
        Edge.sentence("nothing behind it: 2, each more / twice that (64 at most).");
        for (int many = 1; many <= 6; many++) {
            long time = EIGHTH >> many;
            String slashes = "/".repeat(many);
            Edge.times("", "C" + slashes + "[C" + slashes + "][C]" + slashes + "z" + slashes + "x" + slashes + "{C" + slashes
                    + "}C" + slashes + "-", time, time, time, time, time, 0, time);
        }
        Edge.refusedMusic("", "C///////", 1, 7);
        Edge.refusedMusic("", "C////////", 1, 7);
        Edge.refusedMusic("", "[C///////]", 1, 8);
        Edge.refusedMusic("", "[C]///////", 1, 9);
        Edge.refusedMusic("", "z///////", 1, 7);
        Edge.refusedMusic("", "{C///////}", 1, 8);
        Edge.times("", "C3/ C3/2 C64/", 3 * EIGHTH / 2, 3 * EIGHTH / 2, 32 * EIGHTH);
    }

    private static void wrongLengths() {
        Edge.sentence("length = number ['/' [number]] | '/' number | '/' {'/'}");
        Edge.refusedMusic("", "C3//", 1, 3);
        Edge.refusedMusic("", "C//2", 1, 3);
        Edge.refusedMusic("", "C/2/", 1, 3);
        Edge.refusedMusic("", "C3/2/", 1, 4);
        Edge.refusedMusic("", "C 3", 1, 2);
        Edge.refusedMusic("", "C/ 2", 1, 3);
        Edge.refusedMusic("", "C /", 1, 2);
        Edge.refusedMusic("", "C-2", 1, 2);
        Edge.letMusic("", "C3/2- C/- C-", 3);
    }

    private static void chordsTimes() {
        Edge.sentence("The time: the unit times the length (of [ ]: each note's own times that behind ]; the time of it all is that of the first)");
        Edge.askedMusic("M:4/4\n", "[C2E/G]3/2D|[C8E64]|", 8, x -> {
            Check.times(x, 0, 3 * EIGHTH, 3 * EIGHTH / 4, 3 * EIGHTH / 2, EIGHTH, 0, 8 * EIGHTH, 64 * EIGHTH, 0);
            Check.starts(x, 0, 0, 0, 0, 3 * EIGHTH, 4 * EIGHTH, 4 * EIGHTH, 4 * EIGHTH,
                    12 * EIGHTH);
            Check.due("a MEASURE of chords", x.length(1, 1), 8 * EIGHTH);
            Check.due("it is FULL", x.full(1, 1), 1);
        });
        Edge.letMusic("", "[C64]/64 [C/64]64", 2);
    }

    private static void tupletsP() {
        Edge.sentence("( digit p 2 .. 9");
        for (int p = 2; p <= 9; p++) {
            long[] wanted = new long[p + 1];
            for (int i = 0; i < p; i++) {
                wanted[i] = EIGHTH / p;
            }
            wanted[p] = EIGHTH;
            Edge.times("", "(" + p + ":1" + "C".repeat(p + 1), wanted);
            Edge.refusedMusic("", "(" + p + ":1" + "C".repeat(p - 1), 6, 3 + p);
        }
        Edge.refusedMusic("", "(22CDE", 1, 2);
        Edge.refusedMusic("", "( 3CDE", 1, 2);
    }

    private static void tupletsDigit0And1() {
        Edge.sentence("A digit 0, 1: FAULT 1 at it");
        Edge.refusedMusic("", "C(0CC", 1, 2);
        Edge.refusedMusic("", "C(1CC", 1, 2);
        Edge.refusedMusic("", "C(10CC", 1, 2);
        Edge.letMusic("", "C(2CC", 3);
        Edge.letMusic("", "C(9" + "C".repeat(9), 10);
    }

    private static void tupletsQ() {
        Edge.sentence("[':' [digit q 1 .. 9]");
        for (int q = 1; q <= 9; q++) {
            Edge.times("", "(9:" + q + ":1CC", EIGHTH * q / 9, EIGHTH);
            Edge.times("", "(2:" + q + "CCC", EIGHTH * q / 2, EIGHTH * q / 2, EIGHTH);
        }
        Edge.refusedMusic("", "(9:0:1CC", 1, 3);
        Edge.refusedMusic("", "(3:0CCC", 1, 3);
        Edge.refusedMusic("", "(3:10CCC", 1, 4);
        Edge.times("", "(3:CCCC", 2 * EIGHTH / 3, 2 * EIGHTH / 3, 2 * EIGHTH / 3, EIGHTH);
    }

    private static void tupletsR() {
        Edge.sentence("[':' [digit r 1 .. 9]]]: TUPLET: the next r (else p) timed of the text");
        for (int r = 1; r <= 9; r++) {
            long[] wanted = new long[r + 1];
            for (int i = 0; i < r; i++) {
                wanted[i] = EIGHTH / 3;
            }
            wanted[r] = EIGHTH;
            Edge.times("", "(3:1:" + r + "C".repeat(r + 1), wanted);
            Edge.refusedMusic("", "(3:1:" + r + "C".repeat(r - 1), 6, 5 + r);
        }
        Edge.refusedMusic("", "(3:1:0CCC", 1, 5);
        Edge.refusedMusic("", "(3::0CCC", 1, 4);
        Edge.refusedMusic("", "(3:1:10CCC", 1, 6);
        Edge.refusedMusic("", "(3:1:1:CCC", 1, 6);
        Edge.times("", "(3:1::|CCC", 0, EIGHTH / 3, EIGHTH / 3, EIGHTH / 3);
        Edge.times("", "(3:1:1:|C", 0, EIGHTH / 3);
        long third = 2 * EIGHTH / 3;
        Edge.times("", "(3::CCCC", third, third, third, EIGHTH);
        Edge.times("", "(3:2:CCCC", third, third, third, EIGHTH);
        Edge.times("", "(3::1CC", third, EIGHTH);
        Edge.times("M:4/4\n", "(3C{c}[CE]|Zz[K:C]x", third, 0, third, third, 0, WHOLE, third, 0, EIGHTH);
    }

    private static void tupletsOverVoices() {
        Edge.sentence("timed of the text (over V: too) have their times q / p");
        long third = 2 * EIGHTH / 3;
        Edge.times("", "(3C[V:2]C\nV:3\nCC", third, third, third, EIGHTH);
        Edge.times("", "[V:2](3CC\nV:1\nC[V:2]C", third, third, third, EIGHTH);
    }

    private static void tupletsWithoutQ() {
        Edge.sentence("q without: 2 for 3, 6; 3 for 2, 4, 8; for 5, 7, 9: 3 with a meter (of the VOICE there) of 6, 9, 12 over 8,"
                + " else 2.");
        int[] plain = {0, 0, 3, 2, 3, 2, 2, 2, 3, 2};
        int[] threefold = {0, 0, 3, 2, 3, 3, 2, 3, 3, 3};
        String[] others = {"", "M:none\n", "M:C\n", "M:3/8\n", "M:5/8\n", "M:7/8\n", "M:8/8\n", "M:10/8\n", "M:11/8\n",
            "M:13/8\n", "M:15/8\n", "M:18/8\n", "M:6/4\n", "M:6/16\n", "M:9/4\n", "M:9/16\n", "M:12/4\n", "M:12/16\n"};
        for (int p = 2; p <= 9; p++) {
            for (String meter : others) {
                Edge.times(meter + "L:1/8\n", "(" + p + "::1C", plain[p] * EIGHTH / p);
            }
            for (int number = 6; number <= 12; number += 3) {
                Edge.times("M:" + number + "/8\nL:1/8\n", "(" + p + "::1C", threefold[p] * EIGHTH / p);
            }
        }
        Edge.times("L:1/8\n", "(5::1C[M:6/8](5::1C[V:2](5::1C[V:1][M:none](5::1C", 2 * EIGHTH / 5, 0, 3 * EIGHTH / 5,
                2 * EIGHTH / 5, 0, 2 * EIGHTH / 5);
        Edge.times("M:9/8\nL:1/8\n", "[V:2][M:C](7::2C[V:1]C(7::1C", 0, 2 * EIGHTH / 7, 2 * EIGHTH / 7, 3 * EIGHTH / 7);
    }

    private static void tupletsOneInAnother() {
        Edge.sentence("one in another: FAULT 5 at the ( , when p was read.");
        Edge.refusedMusic("", "(3(2CC", 5, 2);
        Edge.refusedMusic("", "(3C(2CC", 5, 3);
        Edge.refusedMusic("", "(3CD(2CC", 5, 4);
        Edge.letMusic("", "(3CDE(2CC", 5);
        Edge.refusedMusic("", "(3CD(2:0CC", 5, 4);
        Edge.refusedMusic("", "(3CD(0CC", 1, 5);
        Edge.refusedMusic("", "(3CD(1CC", 1, 5);
        Edge.refusedMusic("", "(3CD[V:2](2CC", 5, 9);
        Edge.letMusic("", "(3CD(E)", 3);
    }

    private static void tupletsNotFull() {
        Edge.sentence("6 at the text's end: a TUPLET that is not full");
        Edge.refusedMusic("", "(3", 6, 2);
        Edge.refusedMusic("", "(3CD", 6, 4);
        Edge.refusedMusic("", "(3CD\n\n% x\n", 6, 10);
        Edge.refusedMusic("", "(3CD | [K:C] {c}", 6, 16);
        Edge.letMusic("", "(3CDE", 3);
        Edge.letMusic("", "(3::1C", 1);
    }

    private static void brokenOnceToThreeTimes() {
        Edge.sentence("> or < , once to three times, between two timed");
        Edge.sentence("the one before gets 2 - 1/2^k, the one behind 1/2^k of its time (< the other way round).");
        Edge.times("", "C>D", 3 * EIGHTH / 2, EIGHTH / 2);
        Edge.times("", "C>>D", 7 * EIGHTH / 4, EIGHTH / 4);
        Edge.times("", "C>>>D", 15 * EIGHTH / 8, EIGHTH / 8);
        Edge.refusedMusic("", "C>>>>D", 5, 4);
        Edge.times("", "C<D", EIGHTH / 2, 3 * EIGHTH / 2);
        Edge.times("", "C<<D", EIGHTH / 4, 7 * EIGHTH / 4);
        Edge.times("", "C<<<D", EIGHTH / 8, 15 * EIGHTH / 8);
        Edge.refusedMusic("", "C<<<<D", 5, 4);
        Edge.times("", "C>D2<E E", 3 * EIGHTH / 2, EIGHTH / 2, 3 * EIGHTH / 2, EIGHTH);
        Edge.refusedMusic("", "C><D", 5, 2);
        Edge.refusedMusic("", "C<>D", 5, 2);
        Edge.refusedMusic("", "C>>><D", 5, 4);
    }

    private static void brokenWithBlanksAlone() {
        Edge.sentence("between two timed (with blanks alone between, in one line)");
        Edge.times("", "C   >   D", 3 * EIGHTH / 2, EIGHTH / 2);
        Edge.times("", "C- >>[DF] < z > x", 7 * EIGHTH / 4, EIGHTH / 8, EIGHTH / 8, 9 * EIGHTH / 4, EIGHTH / 2);
        Edge.refusedMusic("", "C> >D", 5, 3);
        Edge.refusedMusic("", "C\n>D", 5, 2);
        Edge.refusedMusic("", "C\\\n>D", 5, 3);
        Edge.refusedMusic("", "C>\nD", 5, 2);
        Edge.refusedMusic("", "C>\\\nD", 5, 2);
        Edge.refusedMusic("", "C\nV:1\n>D", 5, 6);
    }

    private static void brokenNotRightBehindATimed() {
        Edge.sentence("Not right behind a timed: FAULT 5 at its first sign");
        Edge.refusedMusic("", ">D", 5, 0);
        Edge.refusedMusic("", "  >>>D", 5, 2);
        String[] between = {"|", "||", ":|2", "[1", ".", "v", "\"x\"", "!x!", "{c}", "[K:C]", "[V:2]", "[V:1]", "[L:1/8]", "(", "(3"};
        for (String one : between) {
            Edge.refusedMusic("", " C" + one + ">>D", 5, 2 + one.length());
            Edge.refusedMusic("", "C " + one + " <D", 5, 3 + one.length());
        }
        Edge.refusedMusic("", "(C)>D", 5, 3);
        Edge.refusedMusic("M:C\n", "Z>D", 5, 1);
        Edge.refusedMusic("M:C\n", "C Z2 >D", 5, 5);
        Edge.refusedMusic("", "{c}>D", 5, 3);
        Edge.letMusic("", "(C>D)", 2);
    }

    private static void brokenBeginsNoTimed() {
        Edge.sentence("if what stands behind begins no timed (a sign or letter of a note, z, x, a [ that is no bar and no change):"
                + " FAULT 5 at it (a line's end, too).");
        for (char b = 33; b <= 126; b++) {
            boolean letter = b >= 'A' && b <= 'G' || b >= 'a' && b <= 'g' || b == 'z' || b == 'x';
            if (letter) {
                Edge.letMusic("", "C>" + b, 2);
            } else if (b == '^' || b == '=' || b == '_' || b == '[') {
                Edge.refusedMusic("", "C>" + b, 1, 3);
            } else {
                Edge.refusedMusic("", "C>" + b, 5, b == '>' ? 3 : 2);
            }
        }
        String[] bars = {"[|", "[1", "[4", "[V:1]", "[M:C]", "[L:1/8]", "[K:C]", "[K:"};
        for (String bar : bars) {
            Edge.refusedMusic("", "C> " + bar + "D", 5, 3);
        }
        Edge.refusedMusic("", "C>[0", 1, 3);
        Edge.refusedMusic("", "C>[5", 1, 3);
        Edge.refusedMusic("", "C>[]", 1, 3);
        Edge.refusedMusic("", "C>[T:a]", 1, 3);
        Edge.refusedMusic("", "C>[K]", 1, 3);
        Edge.letMusic("", "C>[A]", 2);
        Edge.refusedMusic("M:C\n", "C>Z", 5, 2);
        Edge.refusedMusic("", "C>", 5, 2);
        Edge.refusedMusic("", "C>   ", 5, 2);
        Edge.refusedMusic("", "C> % D", 5, 2);
        Edge.refusedMusic("", "C>>>\n", 5, 4);
    }

    private static void brokenOrder() {
        Edge.sentence("Then the one before changes (FAULT 4), then the one behind is read.");
        Edge.refusedMusic(WHOLES, "C6>?", 5, 3);
        Edge.refusedMusic(WHOLES, "C6>", 5, 3);
        Edge.refusedMusic(WHOLES, "C6>D9", 4, 0);
        Edge.refusedMusic(WHOLES, "C6>^?", 4, 0);
        Edge.refusedMusic(WHOLES, "C6>[?", 4, 0);
        Edge.refusedMusic(WHOLES, "C5>^?", 1, 4);
        Edge.refusedMusic(WHOLES, "C9>?", 4, 0);
        Edge.refusedMusic(WHOLES, "C6>D,,,,,,,", 4, 0);
        Edge.refusedMusic(WHOLES, "C5>D,,,,,,,", 4, 3);
    }

    private static void brokenChords() {
        Edge.sentence("Of a chord all notes change.");
        Edge.times("", "[CE2G4]>[DF2A4]", 3 * EIGHTH / 2, 3 * EIGHTH, 6 * EIGHTH, EIGHTH / 2, EIGHTH, 2 * EIGHTH);
        Edge.times("", "[C]<D [CE]<[DF]", EIGHTH / 2, 3 * EIGHTH / 2, EIGHTH / 2, EIGHTH / 2, 3 * EIGHTH / 2, 3 * EIGHTH / 2);
        Edge.askedMusic("", "[CDEFGABcdefg]>c", 13, x -> {
            for (int i = 0; i < 12; i++) {
                Check.times(x, i, 3 * EIGHTH / 2);
            }
            Check.starts(x, 12, 3 * EIGHTH / 2);
        });
    }
}
