/** Promises 9 and 10: times and starts, with FAULT 4 of times. */
public final class TimesTest {
    private static final long EIGHTH = 161280;

    public static void main(String[] args) {
        lengths();
        wrongLengths();
        chords();
        rests();
        tuplets();
        broken();
        starts();
        outOfRange();
        Check.finish();
    }

    private static void times(String heads, String music, long... wanted) {
        Check.times(Check.read(0, Check.tune(heads, music)), 0, wanted);
    }

    private static void lengths() {
        times("", "C C2 C64 C3/ C3/2 C/ C/2 C// C/// C//// C///// C////// C/4 C/64 C1/1 C64/64 C/1 C02",
                EIGHTH, 2 * EIGHTH, 64 * EIGHTH, 3 * EIGHTH / 2, 3 * EIGHTH / 2, EIGHTH / 2, EIGHTH / 2,
                EIGHTH / 4, EIGHTH / 8, EIGHTH / 16, EIGHTH / 32, EIGHTH / 64, EIGHTH / 4, EIGHTH / 64,
                EIGHTH, EIGHTH, EIGHTH, 2 * EIGHTH);
        times("L:1/64\n", "C C/64 C3/64", 20160, 315, 945);
        times("L:1/1\n", "C C8 C/ [L:1/2] C [V:2] C", 1290240, 10321920, 645120, 0, 645120, 1290240);
        times("", "{C2D/}C | [K:C]", 0, 0, EIGHTH, 0, 0);
    }

    private static void wrongLengths() {
        Check.musicFault("C0", 1, 1);
        Check.musicFault("C65", 1, 1);
        Check.musicFault("C99999999999", 1, 1);
        Check.musicFault("C2/3", 1, 3);
        Check.musicFault("C/0", 1, 2);
        Check.musicFault("C/128", 1, 2);
        Check.musicFault("C65/3", 1, 1);
        Check.musicFault("C///////", 1, 7);
        Check.musicFault("(2[C/64]///////", 1, 14);
        Check.musicFault("C3//", 1, 3);
        Check.musicFault("C//2", 1, 3);
        Check.musicFault("C/2/", 1, 3);
        Check.musicFault("C 2", 1, 2);
        Check.musicFault("[C0]", 1, 2);
        Check.musicFault("[C]0", 1, 3);
        Check.musicFault("{C0}", 1, 2);
        Check.musicFault("z65", 1, 1);
        Check.musicFault("x/3", 1, 2);
    }

    private static void chords() {
        AbcForms x = Check.music("[C2E/G]3/2 D [CE]");
        Check.times(x, 0, 3 * EIGHTH, 3 * EIGHTH / 4, 3 * EIGHTH / 2, EIGHTH, EIGHTH, EIGHTH);
        Check.starts(x, 0, 0, 0, 0, 3 * EIGHTH, 4 * EIGHTH, 4 * EIGHTH);
        times("L:1/64\n", "[C/64E/8]64", 20160, 8 * 20160);
    }

    private static void rests() {
        times("M:3/4\n", "z x2 z/ Z Z2 | Z16", EIGHTH, 2 * EIGHTH, EIGHTH / 2, 967680, 2 * 967680, 0,
                16 * 967680);
        times("M:32/1\n", "Z16", 16L * 32 * 1290240);
        times("M:1/32\n", "Z [M:2/2] Z", 40320, 0, 1290240);
    }

    private static void tuplets() {
        long e = EIGHTH;
        times("", "(3CDE F", 2 * e / 3, 2 * e / 3, 2 * e / 3, e);
        times("", "(2CD (4CDEF (6CDEFGA (8CDEFGABc", 3 * e / 2, 3 * e / 2, 3 * e / 4, 3 * e / 4, 3 * e / 4,
                3 * e / 4, e / 3, e / 3, e / 3, e / 3, e / 3, e / 3, 3 * e / 8);
        String nines = "(5CCCCC(7CCCCCCC(9CCCCCCCCC";
        Check.times(Check.music(nines), 4, 2 * e / 5, 2 * e / 7, 2 * e / 7, 2 * e / 7, 2 * e / 7, 2 * e / 7,
                2 * e / 7, 2 * e / 7, 2 * e / 9);
        String[] threefold = {"M:6/8\n", "M:9/8\n", "M:12/8\n"};
        for (String meter : threefold) {
            Check.times(Check.read(0, Check.tune(meter + "L:1/8\n", nines)), 4, 3 * e / 5, 3 * e / 7);
        }
        times("M:6/4\nL:1/8\n", "(5CCCCC", 2 * e / 5);
        times("M:3/8\nL:1/8\n", "(5CCCCC", 2 * e / 5);
        times("M:6/8\nL:1/8\n", "[V:2][M:C](5C[V:1]CCCC(5CCCCC", 0, 2 * e / 5, 2 * e / 5, 2 * e / 5, 2 * e / 5,
                2 * e / 5, 3 * e / 5);
        times("", "(3:2CDE (3:1CDE (3:CDE (3::CDE", 2 * e / 3, 2 * e / 3, 2 * e / 3, e / 3, e / 3, e / 3,
                2 * e / 3, 2 * e / 3, 2 * e / 3, 2 * e / 3);
        times("", "(3::2CDE (3:4:1CD (9:9:9CCCCCCCCC (3:2:FGA", 2 * e / 3, 2 * e / 3, e, 4 * e / 3, e,
                e, e, e, e, e, e, e, e, e, 2 * e / 3, 2 * e / 3, 2 * e / 3);
        times("", "(3::|[ce]z|x c", 0, 2 * e / 3, 2 * e / 3, 2 * e / 3, 0, 2 * e / 3, e);
        times("M:4/4\n", "(3:2:2 Z {c} C | \n D E", 1290240, 0, 2 * e / 3, 0, 2 * e / 3, e);
    }

    private static void broken() {
        long e = EIGHTH;
        times("", "C>D C >> D C>>>D C<D C<<D C<<<  D", 3 * e / 2, e / 2, 7 * e / 4, e / 4, 15 * e / 8, e / 8,
                e / 2, 3 * e / 2, e / 4, 7 * e / 4, e / 8, 15 * e / 8);
        times("", "C>D>E<F", 3 * e / 2, 3 * e / 4, e / 4, 3 * e / 2);
        times("", "C2->D [C2E]>[FA2] z<x2 C>^D", 3 * e, e / 2, 3 * e, 3 * e / 2, e / 2, e, e / 2, 3 * e,
                3 * e / 2, e / 2);
        times("", "(3C>DE F", e, e / 3, 2 * e / 3, e);
        times("", "C>[ce] [V:2]D>z", 3 * e / 2, e / 2, e / 2, 3 * e / 2, e / 2);
    }

    private static void starts() {
        long e = EIGHTH;
        AbcForms x = Check.read(0, Check.tune("M:4/4\nL:1/8\n",
                "|: {c}C>D | Z2 [K:C] E [V:2] | F2 [V:1] G | [V:2] A<B | [V:3] [L:1/4] c d"));
        Check.starts(x, 0, 0, 0, 0, 3 * e / 2, 2 * e, 2 * e, 18 * e, 18 * e, 0, 0, 19 * e, 20 * e, 2 * e,
                5 * e / 2, 4 * e, 0, 0, 2 * e);
        Check.times(x, 2, 3 * e / 2, e / 2, 0, 16 * e, 0, e, 0, 2 * e, e, 0, e / 2, 3 * e / 2, 0, 0, 2 * e,
                2 * e);
        StringBuilder many = new StringBuilder();
        for (int i = 0; i < 18; i++) {
            many.append("Z16");
        }
        AbcForms y = Check.read(0, Check.tune("M:32/1\n", many + "C"));
        Check.due("a late start", y.start(18), 18L * 16 * 32 * 1290240);
    }

    private static void outOfRange() {
        String heads = "L:1/1\n";
        int at = Check.at(heads);
        Check.fault(Check.tune(heads, "C8 C9"), 4, at + 3);
        Check.fault(Check.tune(heads, "C8 C9-?"), 4, at + 3);
        Check.fault(Check.tune(heads, "C8 C9/3"), 1, at + 6);
        Check.fault(Check.tune(heads, "z9"), 4, at);
        Check.fault(Check.tune(heads, "x17/2"), 4, at);
        Check.fault(Check.tune(heads, "[CE2^G4]3-"), 4, at + 4);
        Check.fault(Check.tune(heads, "[CE3G4]3?"), 4, at + 2);
        Check.fault(Check.tune(heads, "[C9E?]"), 1, at + 4);
        Check.fault(Check.tune(heads, "C6>D"), 4, at);
        Check.fault(Check.tune(heads, "D C8>?"), 5, at + 5);
        Check.fault(Check.tune(heads, "D C8>^?"), 4, at + 2);
        Check.fault(Check.tune(heads, "[C2E6]>D"), 4, at + 3);
        Check.fault(Check.tune(heads, "C<D6"), 4, at + 2);
        Check.fault(Check.tune(heads, "(2C6 D"), 4, at + 2);
        Check.due("just eight wholes", Check.fed(0, Check.tune(heads, "C<D5 C8 z16/2")).read(), 4);
        String small = "L:1/64\n";
        at = Check.at(small);
        Check.fault(Check.tune(small, "C/64>D"), 4, at);
        Check.fault(Check.tune(small, "C>D/64"), 4, at + 2);
        Check.fault(Check.tune(small, "C [E/2D/64]/2"), 4, at + 6);
        Check.fault(Check.tune(small, "(2C/64D"), 4, at + 2);
        Check.fault(Check.tune(small, "(8:1C/64 D"), 4, at + 4);
        Check.due("parts that come out whole",
                Check.fed(0, Check.tune(small, "(2C2<D2 [C/64]2 [C/64E/32]64/64")).read(), 5);
    }
}
