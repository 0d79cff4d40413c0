import java.io.IOException;
import java.nio.charset.StandardCharsets;
import java.nio.file.Files;
import java.nio.file.Path;

/**
 * What the tests of boundary cases share. Each such test begins with the sentence of the document that it is of,
 * word for word, and asks all on a new object and on objects that have read another text before.
 */
final class Edge {
    /** What is asked of an object that has just read a text. */
    interface Asking {
        void ask(AbcForms x);
    }

    static final String HEADS_OF_MANY = "X:9999\nT:abc\nT:def\nT:ghi\nM:3/4\nL:1/64\nQ:999\nK:C#\n";

    /** 400 THINGS, 300 MEASURES with repeats, all VOICES with signs and ties, and much that waits for a timed. */
    private static final String MANY = HEADS_OF_MANY + "|:[V:3][M:12/8][K:Cb]^^c_d=e-\nV:2\n[L:1/1]__C[K:none]^f-|\nV:1\n"
            + "Z16|".repeat(17) + "Z16|2Z11:|1.~\"x\"!y!((((^C-)))):|2" + " |".repeat(349) + "\n[V:2].~\"x\"!y!(())\n\n%\n";

    /** Cut off within a timed behind a >, within a TUPLET and four slurs. */
    private static final String FAULTY = "X:2\nT:zz\nM:9/8\nL:1/32\nQ:7\nK:Bb\n[V:3]^c-|[V:2][M:2/4]_d-[V:1]|2C|1D:|"
            + "((((.~\"x\"!y!(9:8:9^C->^?";

    /** The heads alone, but for K:. */
    private static final String HEADLESS = "X:5\nT:a\nT:b\nM:6/8\nL:1/2\nQ:9\n";

    private static final String[] PASTS = {null, MANY, FAULTY, HEADLESS};
    private static final int[] PAST_ANSWERS = {0, 400, -11, -11};
    private static final String[] PAST_NAMES = {"a new object", "behind 400 THINGS", "behind a FAULT in MUSIC",
        "behind heads alone"};

    private static String document;

    private Edge() {
    }

    /** The words must stand in the document: a test can be found by its sentence, and a sentence by its test. */
    static void sentence(String words) {
        Check.context = "";
        Check.due("the document has: " + words, document().contains(words.replaceAll("\\s+", " ")) ? 1 : 0, 1);
        Check.context = words;
    }

    private static String document() {
        if (document == null) {
            try {
                document = Files.readString(Path.of("../shared/DOC.md"), StandardCharsets.UTF_8).replaceAll("\\s+", " ");
            } catch (IOException e) {
                document = "";
            }
        }
        return document;
    }

    static int pasts() {
        return PASTS.length;
    }

    static String pastName(int past) {
        return PAST_NAMES[past];
    }

    /** An object with this past; its tape is empty. */
    static AbcForms withPast(int rule, int past) {
        AbcForms x = new AbcForms(rule);
        if (PASTS[past] != null) {
            feed(x, PASTS[past]);
            Check.due("read() of what was before", x.read(), PAST_ANSWERS[past]);
        }
        return x;
    }

    static void feed(AbcForms x, String text) {
        Check.feed(x, text.getBytes(StandardCharsets.ISO_8859_1));
    }

    /** The text is let through, with both RULEs and each past; then it is asked. */
    static void asked(String text, int things, Asking asking) {
        asked(0, text, things, asking);
        asked(1, text, things, asking);
    }

    static void asked(int rule, String text, int things, Asking asking) {
        String sentence = Check.context;
        for (int past = 0; past < PASTS.length; past++) {
            AbcForms x = withPast(rule, past);
            Check.context = sentence + "; " + PAST_NAMES[past] + "; " + Check.shown(text);
            feed(x, text);
            Check.due("read()", x.read(), things);
            Check.due("place()", x.place(), AbcForms.NONE);
            Check.due("head(7)", x.head(7), things);
            asking.ask(x);
            Check.context = sentence;
        }
    }

    static void let(String text, int things) {
        asked(0, text, things, x -> { });
    }

    static void refused(String text, int fault, int place) {
        String sentence = Check.context;
        for (int past = 0; past < PASTS.length; past++) {
            AbcForms x = withPast(past & 1, past);
            Check.context = sentence + "; " + PAST_NAMES[past] + "; " + Check.shown(text);
            feed(x, text);
            Check.due("read()", x.read(), -10 - fault);
            Check.due("place()", x.place(), place);
            noTune(x);
            Check.context = sentence;
        }
    }

    static void noTune(AbcForms x) {
        for (int what = 0; what <= 9; what++) {
            Check.due("head(" + what + ") without tune", x.head(what), AbcForms.BAD);
        }
        Check.due("title(0, -1) without tune", x.title(0, -1), AbcForms.BAD);
        Check.due("title(0, 0) without tune", x.title(0, 0), AbcForms.BAD);
        Check.due("thing(0, 0) without tune", x.thing(0, 0), AbcForms.BAD);
        Check.due("time(0) without tune", x.time(0), AbcForms.BAD);
        Check.due("start(0) without tune", x.start(0), AbcForms.BAD);
        Check.due("measures(1) without tune", x.measures(1), AbcForms.BAD);
        Check.due("full(1, 0) without tune", x.full(1, 0), AbcForms.BAD);
        Check.due("length(1, 0) without tune", x.length(1, 0), AbcForms.BAD);
        Check.due("played(-1) without tune", x.played(-1), AbcForms.BAD);
        Check.due("played(0) without tune", x.played(0), AbcForms.BAD);
        Check.due("written(0, -1) without tune", x.written(0, -1), AbcForms.BAD);
        Check.due("written(0, 0) without tune", x.written(0, 0), AbcForms.BAD);
    }

    /** MUSIC behind X:1, T:a, these heads and K:C. */
    static void letMusic(String heads, String music, int things) {
        let(Check.tune(heads, music), things);
    }

    /** The place is counted from the MUSIC's first byte on. */
    static void refusedMusic(String heads, String music, int fault, int place) {
        refused(Check.tune(heads, music), fault, Check.at(heads) + place);
    }

    static void askedMusic(String heads, String music, int things, Asking asking) {
        asked(Check.tune(heads, music), things, asking);
    }

    /** The times of all THINGS. */
    static void times(String heads, String music, long... wanted) {
        askedMusic(heads, music, wanted.length, x -> Check.times(x, 0, wanted));
    }

    /** One sort of answer of all THINGS. */
    static void cells(String heads, String music, int what, int... wanted) {
        askedMusic(heads, music, wanted.length, x -> Check.cells(x, what, 0, wanted));
    }
}
