/** Promises 11 to 13: measures, full and length. */
public final class MeasuresTest {
    private static final long EIGHTH = 161280;

    public static void main(String[] args) {
        counts();
        fullness();
        rests();
        meters();
        brokenAndChords();
        wrongArguments();
        Check.finish();
    }

    private static void judged(AbcForms x, int voice, int measure, int full, long length) {
        String told = "(" + voice + ", " + measure + ")";
        Check.due("full" + told, x.full(voice, measure), full);
        Check.due("length" + told, x.length(voice, measure), length);
    }

    private static void counts() {
        AbcForms x = Check.read(0, Check.tune("M:2/4\n", "| |: {c} [K:C] || C | || D || [V:2] E [V:1] F"));
        Check.due("VOICE 1", x.measures(1), 3);
        Check.due("VOICE 2", x.measures(2), 1);
        Check.due("VOICE 3", x.measures(3), 0);
        AbcForms y = Check.music("| {c} ||");
        Check.due("no timed", y.measures(1), 0);
        judged(y, 1, 0, AbcForms.BAD, AbcForms.BAD);
    }

    private static void fullness() {
        AbcForms x = Check.read(0, Check.tune("M:3/4\n", "C6 | C5 | C5 C/ C/ | C7 | (3CDE C4 | z2 x4"));
        judged(x, 1, 0, 1, 6 * EIGHTH);
        judged(x, 1, 1, 0, 5 * EIGHTH);
        judged(x, 1, 2, 1, 6 * EIGHTH);
        judged(x, 1, 3, 0, 7 * EIGHTH);
        judged(x, 1, 4, 1, 6 * EIGHTH);
        judged(x, 1, 5, 1, 6 * EIGHTH);
        AbcForms y = Check.music("C | D3/64 |");
        judged(y, 1, 0, 1, EIGHTH);
        judged(y, 1, 1, 1, 3 * EIGHTH / 64);
    }

    private static void rests() {
        AbcForms x = Check.read(0, Check.tune("M:4/4\n", "Z | Z3 | C Z2 D | Z Z | C"));
        Check.due("MEASURES", x.measures(1), 8);
        judged(x, 1, 0, 1, 8 * EIGHTH);
        judged(x, 1, 1, 1, 8 * EIGHTH);
        judged(x, 1, 2, 1, 8 * EIGHTH);
        judged(x, 1, 3, 1, 8 * EIGHTH);
        judged(x, 1, 4, 0, 9 * EIGHTH);
        judged(x, 1, 5, 0, 9 * EIGHTH);
        judged(x, 1, 6, 0, 16 * EIGHTH);
        judged(x, 1, 7, 0, EIGHTH);
    }

    private static void meters() {
        AbcForms x = Check.read(0, Check.tune("M:4/4\n", "C4 [M:3/4] C4 | C6 | [M:none] C | C [M:2/4] C7 |"
                + " C4 | [V:2] C8 | C4 | [V:1] {c} [M:1/8] C | C [M:5/4] Z"));
        judged(x, 1, 0, 1, 8 * EIGHTH);
        judged(x, 1, 1, 1, 6 * EIGHTH);
        judged(x, 1, 2, 1, EIGHTH);
        judged(x, 1, 3, 1, 8 * EIGHTH);
        judged(x, 1, 4, 1, 4 * EIGHTH);
        judged(x, 2, 0, 1, 8 * EIGHTH);
        judged(x, 2, 1, 0, 4 * EIGHTH);
        judged(x, 1, 5, 1, EIGHTH);
        judged(x, 1, 6, 0, 11 * EIGHTH);
    }

    private static void brokenAndChords() {
        AbcForms x = Check.read(0, Check.tune("M:2/4\nL:1/8\n", "C>D E<F | [C2E4]2 | [CE2]>D {c2} z2"));
        judged(x, 1, 0, 1, 4 * EIGHTH);
        judged(x, 1, 1, 1, 4 * EIGHTH);
        judged(x, 1, 2, 1, 4 * EIGHTH);
        AbcForms y = Check.read(0, Check.tune("M:2/4\nL:1/8\n", "C2>D2 | C2>>D"));
        judged(y, 1, 0, 1, 4 * EIGHTH);
        judged(y, 1, 1, 0, 15 * EIGHTH / 4);
    }

    private static void wrongArguments() {
        AbcForms x = Check.music("C|D|[V:2]E");
        int[] wrong = {0, 4, -1, Integer.MIN_VALUE, Integer.MAX_VALUE};
        for (int voice : wrong) {
            Check.due("measures(" + voice + ")", x.measures(voice), AbcForms.BAD);
            judged(x, voice, 0, AbcForms.BAD, AbcForms.BAD);
        }
        int[] none = {2, -1, 300, Integer.MIN_VALUE, Integer.MAX_VALUE};
        for (int measure : none) {
            judged(x, 1, measure, AbcForms.BAD, AbcForms.BAD);
        }
        judged(x, 2, 1, AbcForms.BAD, AbcForms.BAD);
        judged(x, 3, 0, AbcForms.BAD, AbcForms.BAD);
    }
}
