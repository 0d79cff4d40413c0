/** The boundary cases of Terms, part 2: SIGNS within a bar by both RULEs, ties, and PITCHES. */
public final class EdgesOfSignsTest {
    private static final String METER = "M:4/4\n";

    public static void main(String[] args) {
        theLatestNoteWithOne();
        aGraceToo();
        oneAheadOfItInItsChord();
        sinceTheLatestBarOrZ();
        ofItsVoice();
        sameLetterAndOctave();
        elseThatOfTheKey();
        octaveFour();
        aTieRightBefore();
        aTieOverABar();
        aTieOfAChord();
        aTieOfTheSameLetterAndOctave();
        aGraceHasNoTie();
        whetherItsSignIsWritten();
        theLeastAndTheGreatestPitch();
        aPitchByItsKeyOrItsBar();
        Check.finish();
    }

    private static void signs(int rule, String music, int... wanted) {
        Edge.asked(rule, Check.tune(METER, music), wanted.length, x -> Check.cells(x, 6, 0, wanted));
    }

    private static void signs(String music, int... wanted) {
        signs(0, music, wanted);
        signs(1, music, wanted);
    }

    private static void theLatestNoteWithOne() {
        Edge.sentence("a note without one has that of the latest note with one");
        signs("c^cc_cc=cc^^cc__cc", 0, 1, 1, -1, -1, 0, 0, 2, 2, -2, -2);
        signs("^cdzxdc", 1, 0, 0, 0, 0, 1);
        signs("^c\nc\nV:1\nc[L:1/4]c[M:3/4]c", 1, 1, 1, 0, 1, 0, 1);
        signs("_c_dcdef", -1, -1, -1, -1, 0, 0);
    }

    private static void aGraceToo() {
        Edge.sentence("(a grace, too;");
        signs("{^c}c", 1, 1);
        signs("{^c=c}c", 1, 0, 0);
        signs("^c{c}", 1, 1);
        signs("^c{_c}c", 1, -1, -1);
        signs("{^cc}", 1, 1);
        signs("{^c}|c", 1, 0, 0);
    }

    private static void oneAheadOfItInItsChord() {
        Edge.sentence("also one ahead of it in its [ ])");
        signs("[^cc]", 1, 1);
        signs("[c^c]c", 0, 1, 1);
        signs("[^c_cc]c", 1, -1, -1, -1);
        signs(0, "[^cC]", 1, 1);
        signs(1, "[^cC]", 1, 0);
    }

    private static void sinceTheLatestBarOrZ() {
        Edge.sentence("since the latest BAR or Z of its VOICE");
        String[] bars = {"|", "||", "|]", "[|", "|:", ":|", "::", "|1", ":|2", "[3", "Z", "Z2"};
        for (String bar : bars) {
            signs(" ^c" + bar + " c", 1, 0, 0);
            signs(" ^c" + bar + " ^c c", 1, 0, 1, 1);
        }
        String[] others = {"z", "x", "d", "[eg]", "{d}", "[M:C]", "[L:1/8]"};
        for (String other : others) {
            int things = other.equals("[eg]") ? 2 : 1;
            int[] wanted = new int[2 + things];
            wanted[0] = 1;
            wanted[1 + things] = 1;
            signs("^c" + other + "c", wanted);
        }
        signs("^c[V:1].\"x\"()c", 1, 1);
    }

    private static void ofItsVoice() {
        Edge.sentence("of its VOICE, of the same letter and octave (RULE 1), or of the same letter (RULE 0)");
        signs("^c[V:2]c[V:3]_c[V:1]c[V:2]c[V:3]c", 1, 0, -1, 1, 0, -1);
        signs("^c[V:2]|[V:1]c", 1, 0, 1);
        signs("^c[V:2]Z[V:1]c", 1, 0, 1);
        signs("^c[V:2]^c[V:1]|[V:2]c[V:1]c", 1, 1, 0, 1, 0);
    }

    private static void sameLetterAndOctave() {
        Edge.sentence("of the same letter and octave (RULE 1), or of the same letter (RULE 0); else that of the KEY.");
        signs(0, "^cCc'c,,d", 1, 1, 1, 1, 0);
        signs(1, "^cCc'c,,d", 1, 0, 0, 0, 0);
        signs(0, "^c_C c=c'C", 1, -1, -1, 0, 0);
        signs(1, "^c_C c=c'C", 1, -1, 1, 0, -1);
        signs(0, "^C'c", 1, 1);
        signs(1, "^C'c", 1, 1);
        signs(0, "^C,,,,,g''''c''''", 1, 0, 1);
        signs(1, "^C,,,,,g''''c''''", 1, 0, 0);
        signs(0, "^^B,,,,,,b'''__a''''A,,,,,", 2, 2, -2, -2);
        signs(1, "^^B,,,,,,B,,,,,,b'''__a''''a''''A,,,,,", 2, 2, 0, -2, -2, 0);
    }

    private static void elseThatOfTheKey() {
        Edge.sentence("else that of the KEY.");
        signs("[K:D]fcg[K:Eb]bef[K:none]bef", 0, 1, 1, 0, 0, -1, -1, 0, 0, 0, 0, 0);
        signs("[K:D]=f f|f", 0, 0, 0, 0, 1);
        signs("^f[K:Eb]f e|f e", 1, 0, 1, -1, 0, 0, -1);
        signs("[K:D]f[V:2]f[V:1]f", 0, 1, 0, 1);
    }

    private static void octaveFour() {
        Edge.sentence("Octave 4: C is 60, a c is 72.");
        Edge.cells("", "Cc", 3, 60, 72);
        Edge.cells("", "Cc", 5, 4, 5);
        Edge.cells("", "C'c,", 3, 72, 60);
        Edge.cells("", "C'c,", 5, 5, 4);
    }

    private static void aTieRightBefore() {
        Edge.sentence("right before (the latest timed or Z of the VOICE, over a bar too) it has its SIGN");
        signs("^c-|c", 1, 0, 1);
        signs("^c|c", 1, 0, 0);
        signs("d^c-|c", 0, 1, 0, 1);
        signs("^dzc-|d", 1, 0, 0, 0, 0);
        signs("^C,,,,zC,,,,", 1, 0, 1);
        signs("^c-|dc", 1, 0, 0, 0);
        signs("^c-|zc", 1, 0, 0, 0);
        signs("^c-|xc", 1, 0, 0, 0);
        signs("^c-|[eg]c", 1, 0, 0, 0, 0);
        signs("^c-|Z|c", 1, 0, 0, 0, 0);
        signs("^c-Zc", 1, 0, 0);
        signs("^c-|cc", 1, 0, 1, 0);
        signs("^c-|c-|c|c", 1, 0, 1, 0, 1, 0, 0);
        signs("^c-|[V:2]zZ[V:1]c", 1, 0, 0, 0, 1);
        signs("^c-|{d}[K:C].\"x\"c", 1, 0, 0, 0, 1);
        signs("^c-{_c}c", 1, -1, 1);
        signs("^c-|=cc", 1, 0, 0, 0);
        signs("[V:2]^c-[V:1]c[V:2]|c", 1, 0, 0, 1);
    }

    private static void aTieOverABar() {
        Edge.sentence("over a bar too");
        String[] bars = {"|", "||", "|]", "[|", "|:", ":|", "::", "|1", ":|2", "[3", "| |"};
        for (String bar : bars) {
            int[] wanted = new int[bar.equals("| |") ? 4 : 3];
            wanted[0] = -1;
            wanted[wanted.length - 1] = -1;
            signs("_c-" + bar + " c", wanted);
        }
        signs("_c-\nc", -1, -1);
    }

    private static void aTieOfAChord() {
        Edge.sentence("(of [ ]: the first such)");
        signs("[^c_c]-|c", 1, -1, 0, 1);
        signs("[e_c^c]-|[ce]", 0, -1, 1, 0, -1, 0);
        signs("[^ce]-|[cc]", 1, 0, 0, 1, 1);
        signs("[ge][^ce]-|[ce]", 0, 0, 1, 0, 0, 1, 0);
        signs("[^ce]2-|c", 1, 0, 0, 1);
        signs("^c-|[=cc]", 1, 0, 0, 1);
        signs("^c-|[ec]", 1, 0, 0, 1);
    }

    private static void aTieOfTheSameLetterAndOctave() {
        Edge.sentence("With a tie from a note of the same letter and octave");
        signs("^c-|C", 1, 0, 0);
        signs("^c-|c'", 1, 0, 0);
        signs("^c-|d", 1, 0, 0);
        signs("^c-|C'", 1, 0, 1);
        signs("^c'-|c'", 1, 0, 1);
        signs(0, "[^cC]-|[Cc]", 1, 1, 0, 1, 1);
        signs(1, "[^cC]-|[Cc]", 1, 0, 0, 0, 1);
    }

    private static void aGraceHasNoTie() {
        Edge.sentence("a grace has no tie to it.");
        signs("^c-|{c}c", 1, 0, 0, 1);
        signs("{^c}|c", 1, 0, 0);
    }

    private static void whetherItsSignIsWritten() {
        Edge.sentence("7 whether its SIGN is written");
        Edge.cells("", "^cc=d{_e}{e}^^c-|c[K:D]f", 7, 1, 0, 1, 1, 0, 1, 0, 0, 0, 0);
    }

    private static void theLeastAndTheGreatestPitch() {
        Edge.sentence("0 .. 127, else FAULT 4.");
        Edge.cells("", "C,,,,,^B,,,,,,^^B,,,,,,g''''__a''''", 3, 0, 0, 1, 127, 127);
        Edge.cells("", "{C,,,,,}[C,,,,,g'''']{g''''}", 3, 0, 0, 127, 127);
        String[] low = {"_C,,,,,", "B,,,,,,", "_B,,,,,,", "^^A,,,,,,", "__D,,,,,,", "c,,,,,,,", "__C,,,,,"};
        String[] high = {"^g''''", "a''''", "_a''''", "__b''''", "C''''''", "__c'''''", "^^g''''"};
        for (int i = 0; i < low.length; i++) {
            Edge.refusedMusic("", "C " + low[i], 4, 2);
            Edge.refusedMusic("", "C " + high[i], 4, 2);
            Edge.refusedMusic("", "[C" + low[i] + "]", 4, 2);
            Edge.refusedMusic("", "[C" + high[i] + "?", 4, 2);
            Edge.refusedMusic("", "{C" + low[i] + "}", 4, 2);
            Edge.refusedMusic("", "{C" + high[i] + "?", 4, 2);
            Edge.refusedMusic("", low[i] + "0", 4, 0);
            Edge.refusedMusic("", high[i] + "65", 4, 0);
        }
        Edge.letMusic("", "_D,,,,,__D,,,,,^f''''^^f''''", 4);
    }

    private static void aPitchByItsKeyOrItsBar() {
        Edge.sentence("PITCH: the letter's (0 2 4 5 7 9 11), 12 times, SIGN (- 2 .. 2); 0 .. 127, else FAULT 4.");
        Edge.refusedMusic("", "[K:Cb]C,,,,,", 4, 6);
        Edge.letMusic("", "[K:Cb]=C,,,,,", 2);
        Edge.cells("", "[K:C#]B,,,,,,", 3, 7, 0);
        Edge.refusedMusic("", "[K:A]g''''", 4, 5);
        Edge.refusedMusic("", "_C,,,, _C,,,,,", 4, 7);
        Edge.refusedMusic("", "^B,,,,,, | B,,,,,,", 4, 11);
        Edge.cells("", "^B,,,,,,-|B,,,,,,", 3, 0, 0, 0);
        Edge.cells("", "^^B,,,,,, B,,,,,,", 3, 1, 1);
        Edge.refused("X:1\nT:a\nK:Ab\nC a''''", 4, 15);
        Edge.asked(1, Check.tune("", "^g g''''"), 2, x -> Check.cells(x, 3, 0, 80, 127));
        AbcForms x = Check.fed(0, Check.tune("", "^g g''''"));
        Check.due("RULE 0 takes the sign of the other octave", x.read(), -14);
        Check.due("its place", x.place(), 15);
    }
}
