import java.nio.charset.StandardCharsets;
import java.util.Random;

/**
 * All promises: whatever is called in whatever order, no call throws, and the answers of one tune
 * agree with one another. The seed is fixed, so that each run asks the same.
 */
public final class AnyCallsTest {
    private static final String[] PARTS = {"C", "^c", "_e'", "=F,", "g2", "a/", "B3/2-", "z", "x2", "Z", "Z3", "[ceg]",
        "[C2^E]/-", "{c}", "|", "||", "|]", "|:", ":|", "::", "|1", ":|2", "[1", " ", "\n", ">", "<<", "(3", "(5:4:2",
        "(", ")", ".", "T", "!f!", "\"Am\"", "[K:Bb]", "[M:6/8]", "[L:1/16]", "[V:2]", "\nK:G\n", "\nV:1\n", "%", "\\",
        "\n\n", ":", "-", "0", "'", "\u00e9", "]", "\""};
    private static final int[] EDGES = {0, 1, -1, -2, 2, 16, 17, 20, 299, 300, 400, Integer.MAX_VALUE,
        Integer.MIN_VALUE};

    public static void main(String[] args) {
        Random random = new Random(7);
        for (int run = 0; run < 300; run++) {
            anyCalls(random, run);
        }
        int tunes = 0;
        for (int run = 0; run < 6000; run++) {
            AbcForms x = Check.fed(run & 1, anyText(random, run % 50 == 0 ? 400 : 12));
            int things = x.read();
            if (things >= 0) {
                tunes++;
                agree(x, things);
            } else {
                Check.due("a FAULT's number", things <= -11 && things >= -16 ? 1 : 0, 1);
                Check.due("a FAULT's place", x.place() >= 0 && x.place() <= 2000 ? 1 : 0, 1);
                Check.due("no tune", x.head(7), AbcForms.BAD);
            }
        }
        Check.due("enough tunes were whole", tunes > 500 ? 1 : 0, 1);
        Check.finish();
    }

    private static String anyText(Random random, int parts) {
        StringBuilder b = new StringBuilder("X:1\nT:a\nM:4/4\nK:D\n");
        for (int i = random.nextInt(parts + 1); i > 0; i--) {
            b.append(PARTS[random.nextInt(random.nextInt(4) == 0 ? PARTS.length : 25)]);
        }
        return b.toString();
    }

    private static int any(Random random) {
        return random.nextInt(3) == 0 ? random.nextInt() : EDGES[random.nextInt(EDGES.length)];
    }

    private static void anyCalls(Random random, int run) {
        AbcForms x = new AbcForms(any(random));
        String text = anyText(random, 30);
        int tape = 0;
        for (int call = 0; call < 512; call++) {
            int a = any(random);
            int b = any(random);
            switch (random.nextInt(run % 3 == 0 ? 5 : 18)) {
                case 0:
                    int fed = x.feed(a, b, any(random), any(random), any(random));
                    Check.due("feed at " + tape, fed, tape + 20 > 2400 ? AbcForms.FULL : tape + 20);
                    tape = Math.max(tape, fed);
                    break;
                case 1:
                    int ended = x.end(a);
                    boolean bad = a < 0 || a > 20 || tape < 20;
                    Check.due("end(" + a + ") at " + tape, ended, bad ? AbcForms.BAD : tape - 20 + a);
                    tape = bad ? tape : ended;
                    break;
                case 2:
                    x.read();
                    tape = 0;
                    break;
                case 3:
                    x.read();
                    Check.feed(x, text.getBytes(StandardCharsets.ISO_8859_1));
                    x.read();
                    tape = 0;
                    break;
                default:
                    ask(x, a, b);
                    break;
            }
        }
    }

    private static void ask(AbcForms x, int a, int b) {
        x.place();
        x.head(a);
        x.title(a, b);
        x.thing(a, b);
        x.time(a);
        x.start(a);
        x.measures(a);
        x.full(a, b);
        x.length(a, b);
        x.played(a);
        x.written(a, b);
    }

    /** The clock of a VOICE, its MEASURES and its THINGS tell the same time. */
    private static void agree(AbcForms x, int things) {
        Check.due("THINGS", x.head(7), things);
        for (int voice = 1; voice <= 3; voice++) {
            long clock = 0;
            long[] lengths = new long[301];
            for (int i = 0; i < things; i++) {
                if (x.thing(i, 1) != voice) {
                    continue;
                }
                boolean within = x.thing(i, 10) > 0;
                Check.due("start(" + i + ")", x.start(i), within ? x.start(i - x.thing(i, 10)) : clock);
                if (!within) {
                    clock += x.time(i);
                }
                spelledAgain(x, i);
            }
            long sum = 0;
            for (int m = 0; m < x.measures(voice); m++) {
                lengths[m] = x.length(voice, m);
                sum += lengths[m];
                Check.due("a MEASURE has time", lengths[m] > 0 ? 1 : 0, 1);
            }
            Check.due("time of VOICE " + voice, sum, clock);
        }
        for (int i = 0; i < x.played(-1); i++) {
            Check.due("a MEASURE that is there", x.full(1, x.played(i)) >= 0 ? 1 : 0, 1);
        }
    }

    /** A NOTE that is written alone is read back with the same time, letter and octave. */
    private static void spelledAgain(AbcForms x, int i) {
        int size = x.written(i, -1);
        if (size < 0) {
            return;
        }
        StringBuilder b = new StringBuilder("X:1\nT:a\nL:1/8\nK:C\n");
        for (int k = 0; k < size; k++) {
            b.append((char) x.written(i, k));
        }
        AbcForms y = Check.fed(0, b.toString());
        Check.due("what is written is one NOTE", y.read(), 1);
        Check.due("its letter", y.thing(0, 4), x.thing(i, 4));
        Check.due("its octave", y.thing(0, 5), x.thing(i, 5));
        if (y.thing(0, 7) == 1) {
            Check.due("its SIGN", y.thing(0, 6), x.thing(i, 6));
        }
    }
}
