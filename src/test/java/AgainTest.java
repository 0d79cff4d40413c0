import java.nio.charset.StandardCharsets;

/** Promise 4: what was read before, whole or with a FAULT, leaves nothing to what is read behind it. */
public final class AgainTest {
    private static final String HEADS = "X:1\nT:a\nK:C\n";

    private static final String[] TEXTS = {
        "",
        "X:7\nT:a\nT:b\nT:c\nM:6/8\nL:1/4\nQ:12\nK:Eb\nE A B\n\n",
        "X:7\nT:a\nM:C\nK:Gx",
        "X:7\nT:a\nQ:12\nT:b",
        "X:7\nT:a\nL:1/2\n",
        HEADS,
        HEADS + "C",
        HEADS + "C\n\n",
        HEADS + "C2",
        HEADS + "C2|2222222222222222",
        HEADS + "D ^D- d'",
        HEADS + "C ^D-",
        HEADS + "D-",
        HEADS + "{^D} | D",
        HEADS + "D",
        HEADS + ".\"x\"!y!D | .~\"x\"",
        HEADS + ". \"a\" () ?",
        HEADS + "((C) D",
        HEADS + "| () D",
        HEADS + "(3CD",
        HEADS + "C>",
        HEADS + "> C",
        HEADS + "C>?",
        HEADS + "C>D<?",
        HEADS + "[V:3][K:G][M:3/4][L:1/2] F [V:2] ^C-",
        HEADS + "[V:2] C [V:3] F | [V:1] F",
        HEADS + "|: C |1 D :|2 E || F :|",
        HEADS + "|2 C |1 D | E",
        HEADS + "C | D | E",
        "X:1\nT:a\nM:4/4\nK:C\nZ16|Z16|Z16|Z16|Z16|Z16|Z16|Z16|Z16|Z16|Z16|Z16|Z16|Z16|Z16|Z16|Z16|Z16|Z12:|2",
        "X:1\nT:a\nM:4/4\nK:C\nZ16|Z16|Z16|Z16|Z16|Z16|Z16|Z16|Z16|Z16|Z16|Z16|Z16|Z16|Z16|Z16|Z16|Z16|Z12",
        HEADS + "[ceg]2-[ceg] {^c} c",
        HEADS + "?",
        HEADS + "c [V:2] c [V:",
    };

    /** What the latest read() answered. */
    private static int latest;

    public static void main(String[] args) {
        for (int rule = 0; rule <= 1; rule++) {
            for (String behind : TEXTS) {
                String fresh = answers(rule, behind);
                for (String before : TEXTS) {
                    String again = answers(rule, before, behind);
                    Check.due("the same as alone: " + behind + " behind " + before, again.equals(fresh) ? 1 : 0, 1);
                }
            }
        }
        Check.finish();
    }

    private static AbcForms read(int rule, String... texts) {
        AbcForms x = new AbcForms(rule);
        for (String text : texts) {
            Check.feed(x, text.getBytes(StandardCharsets.ISO_8859_1));
            latest = x.read();
        }
        return x;
    }

    /** Every answer to the last of the texts, which are read one behind the other. */
    private static String answers(int rule, String... texts) {
        AbcForms x = read(rule, texts);
        int things = latest;
        StringBuilder b = new StringBuilder();
        b.append(things).append(' ').append(x.place());
        for (int what = 0; what < 10; what++) {
            b.append(' ').append(x.head(what));
        }
        for (int i = 0; i < 3; i++) {
            b.append(' ').append(x.title(i, -1)).append(' ').append(x.title(i, 0));
        }
        for (int i = 0; i <= things; i++) {
            // An object is promised for 512 calls.
            x = i % 10 == 0 ? read(rule, texts) : x;
            for (int what = 0; what < 17; what++) {
                b.append(' ').append(x.thing(i, what));
            }
            b.append(' ').append(x.time(i)).append(' ').append(x.start(i));
            for (int k = -1; k < 6; k++) {
                b.append(' ').append(x.written(i, k));
            }
        }
        x = read(rule, texts);
        for (int voice = 1; voice <= 3; voice++) {
            b.append(' ').append(x.measures(voice));
            for (int m = 0; m < 6; m++) {
                b.append(' ').append(x.full(voice, m)).append(' ').append(x.length(voice, m));
            }
        }
        for (int i = -1; i < 12; i++) {
            b.append(' ').append(x.played(i));
        }
        return b.toString();
    }
}
