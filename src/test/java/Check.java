import java.nio.charset.StandardCharsets;

/** What the tests share: a tape fed from a text, and a count of answers that are not as due. */
final class Check {
    private static int asked;
    private static int wrong;
    /** Told ahead of each answer that is not as due. */
    static String context = "";

    private Check() {
    }

    static void due(String what, long got, long want) {
        asked++;
        if (got != want) {
            wrong++;
            String where = context.isEmpty() ? "" : "[" + context + "] ";
            System.out.println(where + what + " answered " + got + ", due is " + want);
        }
    }

    /** Ends the test, with exit code 1 if an answer was wrong or none was asked for. */
    static void finish() {
        System.out.println(asked + " answers asked for, " + wrong + " wrong");
        if (wrong > 0 || asked == 0) {
            System.exit(1);
        }
    }

    static AbcForms fed(int rule, String text) {
        AbcForms x = new AbcForms(rule);
        feed(x, text.getBytes(StandardCharsets.ISO_8859_1));
        return x;
    }

    /** Feeds twenty bytes at a time and cuts off what was fed beyond the text. */
    static void feed(AbcForms x, byte[] bytes) {
        for (int i = 0; i < bytes.length; i += 20) {
            x.feed(four(bytes, i), four(bytes, i + 4), four(bytes, i + 8), four(bytes, i + 12),
                    four(bytes, i + 16));
        }
        if (bytes.length % 20 != 0) {
            x.end(bytes.length % 20);
        }
    }

    private static int four(byte[] bytes, int first) {
        int number = 0;
        for (int i = first; i < first + 4; i++) {
            number = number << 8 | (i < bytes.length ? bytes[i] & 255 : 32);
        }
        return number;
    }

    /** A tune with the heads X:1, T:a, those told and K:C; its MUSIC begins where at(heads) says. */
    static String tune(String heads, String music) {
        return "X:1\nT:a\n" + heads + "K:C\n" + music;
    }

    static int at(String heads) {
        return tune(heads, "").length();
    }

    static AbcForms read(int rule, String text) {
        AbcForms x = fed(rule, text);
        int things = x.read();
        if (things < 0) {
            due("read() of " + text + " at " + x.place(), things, 0);
        }
        return x;
    }

    static AbcForms music(String music) {
        return read(0, tune("", music));
    }

    static void fault(String text, int fault, int place) {
        AbcForms x = fed(0, text);
        due("read() of " + shown(text), x.read(), -10 - fault);
        due("place() of " + shown(text), x.place(), place);
    }

    static void musicFault(String music, int fault, int place) {
        fault(tune("", music), fault, at("") + place);
    }

    /** The answers of thing(first .., what). */
    static void cells(AbcForms x, int what, int first, int... wanted) {
        for (int i = 0; i < wanted.length; i++) {
            due("thing(" + (first + i) + ", " + what + ")", x.thing(first + i, what), wanted[i]);
        }
    }

    static void times(AbcForms x, int first, long... wanted) {
        for (int i = 0; i < wanted.length; i++) {
            due("time(" + (first + i) + ")", x.time(first + i), wanted[i]);
        }
    }

    static void starts(AbcForms x, int first, long... wanted) {
        for (int i = 0; i < wanted.length; i++) {
            due("start(" + (first + i) + ")", x.start(first + i), wanted[i]);
        }
    }

    static void order(String music, int... wanted) {
        AbcForms x = music(music);
        due("played(-1) of " + music, x.played(-1), wanted.length);
        for (int i = 0; i < wanted.length; i++) {
            due("played(" + i + ") of " + music, x.played(i), wanted[i]);
        }
        due("played(n) of " + music, x.played(wanted.length), AbcForms.BAD);
    }

    static void spelled(AbcForms x, int i, String wanted) {
        due("written(" + i + ", -1) of " + wanted, x.written(i, -1), wanted.length());
        for (int k = 0; k < wanted.length(); k++) {
            due("written(" + i + ", " + k + ") of " + wanted, x.written(i, k), wanted.charAt(k));
        }
        due("written(" + i + ", n) of " + wanted, x.written(i, wanted.length()), AbcForms.BAD);
        due("written(" + i + ", -2) of " + wanted, x.written(i, -2), AbcForms.BAD);
    }

    static String shown(String text) {
        String line = text.replace('\n', '$');
        return line.length() > 80 ? line.substring(0, 80) + ".." : line;
    }
}
