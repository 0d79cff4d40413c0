import java.util.Random;

/**
 * Promise 15, by reading back what it tells: a NOTE that stands in the text as written is read as it was, and without
 * any one of its bytes it is not. The seed is fixed, so that each run asks the same.
 */
public final class WrittenBackTest {
    private static final String[] SIGNS = {"", "", "", "^", "^^", "=", "_", "__"};
    private static final String[] OCTAVES = {"", "", "", "'", ",", "''", ",,", "',", ",''"};
    private static final String[] LENGTHS = {"", "", "1", "2", "3", "16", "/", "//", "/4", "/2", "/64", "//////", "3/", "6/4",
        "2/2", "4/8", "63/64", "/1", "10", "64/16"};
    private static final String[] OTHERS = {"|", "|", "|:", ":|2", "Z", "Z2", "z", "{^c_D}", "{=c}", "[K:Bb]", "[K:A]",
        "[L:1/4]", "[L:1/16]", "[V:2]", "[V:1]", "[^Cc]-", "[_d=Dc]", "(", ")", "\n", "."};

    public static void main(String[] args) {
        Random random = new Random(15);
        int tunes = 0;
        for (int run = 0; run < 1500; run++) {
            String[] parts = anyParts(random);
            AbcForms x = Check.fed(run & 1, text(parts));
            if (x.read() >= 0) {
                tunes++;
                readBack(x, run & 1, parts);
            }
        }
        Check.due("enough tunes were whole", tunes > 300 ? 1 : 0, 1);
        Check.finish();
    }

    private static String pick(Random random, String[] from) {
        return from[random.nextInt(from.length)];
    }

    private static String[] anyParts(Random random) {
        String[] parts = new String[2 + random.nextInt(14)];
        for (int p = 0; p < parts.length; p++) {
            parts[p] = random.nextInt(3) == 0 ? pick(random, OTHERS)
                    : pick(random, SIGNS) + "CcDdF".charAt(random.nextInt(5)) + pick(random, OCTAVES)
                    + pick(random, LENGTHS) + (random.nextInt(3) == 0 ? "-" : "");
        }
        return parts;
    }

    private static String text(String[] parts) {
        return Check.tune("M:4/4\n", String.join(" ", parts));
    }

    private static void readBack(AbcForms x, int rule, String[] parts) {
        int place = Check.at("M:4/4\n");
        for (int p = 0; p < parts.length; p++) {
            int i = noteAt(x, place);
            place += parts[p].length() + 1;
            if (i < 0) {
                continue;
            }
            String own = parts[p];
            String tie = own.endsWith("-") ? "-" : "";
            String written = written(x, i);
            parts[p] = written + tie;
            Check.due("as written, " + own + " in " + Check.shown(text(parts)), isSame(x, i, rule, parts) ? 1 : 0, 1);
            for (int k = 0; k < written.length() && written.length() > 1; k++) {
                parts[p] = written.substring(0, k) + written.substring(k + 1) + tie;
                Check.due("less than written, " + own + " in " + Check.shown(text(parts)),
                        isSame(x, i, rule, parts) ? 1 : 0, 0);
            }
            parts[p] = own;
        }
    }

    /** The NOTE alone that begins there, or -1. */
    private static int noteAt(AbcForms x, int place) {
        for (int i = 0; i < x.head(7); i++) {
            if (x.thing(i, 0) == 0 && x.thing(i, 16) == place) {
                return i;
            }
        }
        return -1;
    }

    private static String written(AbcForms x, int i) {
        StringBuilder b = new StringBuilder();
        for (int k = 0; k < x.written(i, -1); k++) {
            b.append((char) x.written(i, k));
        }
        return b.toString();
    }

    private static boolean isSame(AbcForms x, int i, int rule, String[] parts) {
        AbcForms y = Check.fed(rule, text(parts));
        boolean same = y.read() == x.head(7) && y.time(i) == x.time(i) && y.start(i) == x.start(i);
        int[] whats = {0, 1, 2, 3, 4, 5, 6, 8, 9};
        for (int what : whats) {
            same = same && y.thing(i, what) == x.thing(i, what);
        }
        return same;
    }
}
