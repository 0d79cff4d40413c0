/** Promises 6 and 7: head and title, with the lines that tell them. */
public final class HeadsTest {
    public static void main(String[] args) {
        allHeads();
        fewestHeads();
        titles();
        meters();
        units();
        keys();
        lines();
        wrongLines();
        wrongValues();
        Check.finish();
    }

    private static void heads(AbcForms x, int... wanted) {
        for (int what = 0; what < wanted.length; what++) {
            Check.due("head(" + what + ")", x.head(what), wanted[what]);
        }
    }

    private static void allHeads() {
        AbcForms x = Check.read(1, "X: 9999\nT:a\nT:b\nT:c\nQ:999\nL: 1/32\nM:  12/8\nK: Ebmin\n"
                + "CDE|[V:3]F[M:3/4][L:1/4][K:C]\nV:2\n");
        heads(x, 9999, 3, 12, 8, 32, 999, -6, 8, 3, 1);
        Check.due("the least Q", Check.read(0, Check.tune("Q:1\n", "")).head(5), 1);
        int[] wrong = {-1, 10, Integer.MIN_VALUE, Integer.MAX_VALUE, AbcForms.NONE};
        for (int what : wrong) {
            Check.due("head(" + what + ")", x.head(what), AbcForms.BAD);
        }
    }

    private static void fewestHeads() {
        AbcForms x = Check.read(0, "X:1\nT:\nK:none");
        heads(x, 1, 1, 0, 0, 8, 0, 0, 0, 1, 0);
        Check.due("an empty title", x.title(0, -1), 0);
        Check.due("its byte 0", x.title(0, 0), AbcForms.BAD);
    }

    private static void title(AbcForms x, int i, String wanted) {
        Check.due("title(" + i + ", -1)", x.title(i, -1), wanted.length());
        for (int k = 0; k < wanted.length(); k++) {
            Check.due("title(" + i + ", " + k + ")", x.title(i, k), wanted.charAt(k));
        }
        Check.due("title(" + i + ", n)", x.title(i, wanted.length()), AbcForms.BAD);
    }

    private static void titles() {
        AbcForms x = Check.read(0, "X:1\nT:  A song \\x: ~  % of one\nT:two  \\\nT: \\\nK:C\n");
        title(x, 0, "A song \\x: ~");
        title(x, 1, "two  ");
        title(x, 2, "");
        Check.due("title(3, -1)", x.title(3, -1), AbcForms.BAD);
        Check.due("title(-1, -1)", x.title(-1, -1), AbcForms.BAD);
        Check.due("title(0, -2)", x.title(0, -2), AbcForms.BAD);
        Check.due("title(0, min)", x.title(0, Integer.MIN_VALUE), AbcForms.BAD);
        Check.due("title(max, 0)", x.title(Integer.MAX_VALUE, 0), AbcForms.BAD);
        Check.due("title(0, max)", x.title(0, Integer.MAX_VALUE), AbcForms.BAD);
        AbcForms y = Check.read(0, "X:1\nT:a\\%\nK:C\n");
        title(y, 0, "a");
        Check.due("title(1, -1) of one line", y.title(1, -1), AbcForms.BAD);
    }

    private static void meter(String told, int number, int lower, int unit) {
        AbcForms x = Check.read(0, Check.tune(told, ""));
        Check.due("meter of " + told, x.head(2), number);
        Check.due("lower one of " + told, x.head(3), lower);
        Check.due("unit of " + told, x.head(4), unit);
    }

    private static void meters() {
        meter("M:C\n", 4, 4, 8);
        meter("M:C|\n", 2, 2, 8);
        meter("M:none\n", 0, 0, 8);
        meter("M:3/4\n", 3, 4, 8);
        meter("M:6/8\n", 6, 8, 8);
        meter("M:2/4\n", 2, 4, 16);
        meter("M:5/8\n", 5, 8, 16);
        meter("M:23/32\n", 23, 32, 16);
        meter("M:24/32\n", 24, 32, 8);
        meter("M:1/1\n", 1, 1, 8);
        meter("M:32/16\n", 32, 16, 8);
        meter("M:1/2\n", 1, 2, 16);
    }

    private static void units() {
        for (int lower = 1; lower <= 64; lower *= 2) {
            meter("L:1/" + lower + "\nM:2/4\n", 2, 4, lower);
        }
        AbcForms x = Check.read(0, Check.tune("M:4/4\n", "M:2/4\nC\nL:1/4\nC [M:2/4] C"));
        Check.due("a unit told later is none of the heads", x.head(4), 8);
        Check.due("a meter told later is none of the heads", x.head(2), 4);
        Check.times(x, 0, 0, 161280, 0, 322560, 0, 322560);
        AbcForms y = Check.read(0, Check.tune("", "M:2/4\nC"));
        Check.due("a meter behind K: changes no unit", y.time(1), 161280);
    }

    private static void key(String told, int signs) {
        AbcForms x = Check.read(0, "X:1\nT:a\nK:" + told + "\nV:1\nK:" + told + "\n[K:" + told + "]");
        Check.due("SIGNS of the head " + told, x.head(6), signs);
        Check.due("SIGNS of the line " + told, x.thing(0, 3), signs);
        Check.due("SIGNS of the change " + told, x.thing(1, 3), signs);
    }

    private static void keys() {
        String[] letters = {"F", "C", "G", "D", "A", "E", "B"};
        for (int i = 0; i < letters.length; i++) {
            key(letters[i], i - 1);
            key(letters[i] + "maj", i - 1);
            key(letters[i] + "ion", i - 1);
            key(letters[i] + "m", i - 4);
            key(letters[i] + "min", i - 4);
            key(letters[i] + "aeo", i - 4);
            key(letters[i] + "dor", i - 3);
            key(letters[i] + "phr", i - 5);
            key(letters[i] + "lyd", i);
            key(letters[i] + "mix", i - 2);
            key(letters[i] + "loc", i - 6);
        }
        for (int i = 1; i < letters.length; i++) {
            key(letters[i] + "b", i - 8);
        }
        key("none", 0);
        key("F#", 6);
        key("C#", 7);
        key("B#loc", 7);
        key("G#m", 5);
        key("Bbphr", -6);
        Check.fault("X:1\nT:a\nK:G#\n", 3, 10);
        Check.fault("X:1\nT:a\nK:  Fb\n", 3, 12);
        Check.fault("X:1\nT:a\nK:Fbx", 3, 10);
        Check.fault("X:1\nT:a\nK:B#lyd\n", 3, 10);
        Check.fault("X:1\nT:a\nK:Cbm\n", 3, 10);
        Check.musicFault("C\nK: D#", 3, 5);
        Check.musicFault("C [K:D#x", 3, 5);
    }

    private static void lines() {
        Check.due("a % line ends the tune", Check.fed(0, Check.tune("", "C\n  % x\n\n%\n \n")).read(), 1);
        Check.fault(Check.tune("", "C\n%x\nC"), 1, Check.at("") + 5);
        Check.fault(Check.tune("", "C\n\\\nC"), 1, Check.at("") + 4);
        Check.fault(Check.tune("", "C\n\n \\\n"), 1, Check.at("") + 3);
        Check.due("a blank ahead of \\ is something", Check.fed(0, Check.tune("", "C\n \\\nC")).read(), 2);
        Check.due("a \\ and blanks at the end", Check.fed(0, Check.tune("", "C \\  % x\nD\\")).read(), 2);
        Check.musicFault("C \\ \\", 1, 2);
        Check.due("no music line", Check.fed(0, "X:1\nT:a\nK:C\n\n\n").read(), 0);
    }

    private static void wrongLines() {
        Check.fault("X:1\nT:a\n", 1, 8);
        Check.fault("X:1\nT:a", 1, 7);
        Check.fault("X:1\n\nT:a\nK:C\n", 1, 4);
        Check.fault("\nX:1\nT:a\nK:C\n", 1, 0);
        Check.fault("X:1\n %\n", 1, 4);
        Check.fault("T:a\nX:1\nK:C\n", 1, 0);
        Check.fault("X:1\nX:1\nT:a\nK:C\n", 1, 4);
        Check.fault("X:1\nM:4/4\nT:a\nK:C\n", 1, 4);
        Check.fault("X:1\nK:C\n", 1, 4);
        Check.fault("X:1\nT:a\nM:C\nT:b\nK:C\n", 1, 12);
        Check.fault("X:1\nT:a\nL:1/8\nT:b\nK:C\n", 1, 14);
        Check.fault("X:1\nT:a\nQ:9\nT:b\nK:C\n", 1, 12);
        Check.fault("X:1\nT:a\nT:b\nT:c\nT:d\nK:C\n", 1, 16);
        Check.fault("X:1\nT:a\nM:none\nM:C\nK:C\n", 1, 15);
        Check.fault("X:1\nT:a\nL:1/8\nL:1/8\nK:C\n", 1, 14);
        Check.fault("X:1\nT:a\nQ:9\nQ:9\nK:C\n", 1, 12);
        Check.fault("X:1\nT:a\nV:1\nK:C\n", 1, 8);
        Check.fault("X:1\nT:a\nK C\n", 1, 8);
        Check.fault("X\n", 1, 0);
        Check.fault(" X:1\n", 1, 0);
        Check.fault("x:1\n", 1, 0);
        Check.fault("X:1\nT:a\nC\nK:C\n", 1, 8);
        Check.musicFault("C\nQ:3", 1, 2);
        Check.musicFault("X:3", 1, 0);
        Check.musicFault("C\nc:|", 1, 2);
        Check.musicFault("w:la", 1, 0);
        Check.fault(Check.tune("M:C\n", "Z::"), 1, Check.at("M:C\n"));
        Check.musicFault("z:|", 1, 0);
        Check.musicFault("a:|", 1, 0);
        Check.musicFault("A:|", 1, 0);
        Check.fault("X:1\nL:1/8\nT:a\nK:C\n", 1, 4);
        Check.fault("X:1\nQ:8\nT:a\nK:C\n", 1, 4);
        Check.fault("X:1\nT:a\nL:1/1\nT:b\nK:C\n", 1, 14);
        Check.fault("X:1\nT:a\nQ:1\nT:b\nK:C\n", 1, 12);
        Check.musicFault("V 1", 1, 0);
        Check.due("a bar behind a blank and a letter", Check.fed(0, Check.tune("", " c:|")).read(), 2);
    }

    private static void wrongValues() {
        Check.fault("X:\n", 1, 2);
        Check.fault("X:   \n", 1, 2);
        Check.fault("X: a\n", 1, 3);
        Check.fault("X:0\n", 1, 2);
        Check.fault("X:10000\n", 1, 2);
        Check.fault("X:99999999999999999999x\n", 1, 2);
        Check.fault("X:12 \\\n", 1, 4);
        Check.fault("X:1x\n", 1, 3);
        Check.fault("X:1 x\n", 1, 3);
        Check.fault("X:-1\n", 1, 2);
        Check.fault(Check.tune("Q:0\n", ""), 1, 10);
        Check.fault(Check.tune("Q:1000\n", ""), 1, 10);
        Check.fault(Check.tune("Q:\n", ""), 1, 10);
        String[] meters = {"0/4", "33/4", "x", "nonex", "non", "4", "4/", "4/3", "4/64", "4/0", "4 /4",
            "C|x", "Cx", "c", "4/4 x", "/4"};
        int[] places = {0, 0, 0, 4, 0, 1, 2, 2, 2, 2, 1, 2, 1, 0, 3, 0};
        for (int i = 0; i < meters.length; i++) {
            Check.fault(Check.tune("M:" + meters[i] + "\n", ""), 1, 10 + places[i]);
            Check.musicFault("C\nM: " + meters[i] + "\n", 1, 5 + places[i]);
        }
        String[] units = {"1/3", "1/0", "1/128", "2/4", "1", "1/", "1/4x", "12/8", "/8"};
        int[] unitPlaces = {2, 2, 2, 0, 1, 2, 3, 1, 0};
        for (int i = 0; i < units.length; i++) {
            Check.fault(Check.tune("L: " + units[i] + "\n", ""), 1, 11 + unitPlaces[i]);
            Check.musicFault("L:" + units[i] + "\n", 1, 2 + unitPlaces[i]);
        }
        String[] keys = {"xone", "Cxaj", "H", "c", "", "no", "nonem", "Cma", "Cmi", "Cdo", "Cx", "C min", "C##", "Cminx"};
        int[] keyPlaces = {0, 1, 0, 0, 0, 0, 4, 2, 2, 1, 1, 1, 2, 4};
        for (int i = 0; i < keys.length; i++) {
            Check.fault("X:1\nT:a\nK:" + keys[i], 1, 10 + keyPlaces[i]);
            Check.musicFault("K:" + keys[i], 1, 2 + keyPlaces[i]);
        }
        String[] voices = {"0", "4", "12", "", "x", "1x", "1 2"};
        int[] voicePlaces = {0, 0, 0, 0, 0, 1, 1};
        for (int i = 0; i < voices.length; i++) {
            Check.musicFault("C\nV:" + voices[i], 1, 4 + voicePlaces[i]);
        }
    }
}
