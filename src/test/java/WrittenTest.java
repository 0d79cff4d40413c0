/** Promise 15: the least way in which a NOTE is written alone. */
public final class WrittenTest {
    public static void main(String[] args) {
        letters();
        lengths();
        signs();
        timesAsTheyAre();
        units();
        noNotes();
        Check.finish();
    }

    private static void all(int rule, String text, String... wanted) {
        AbcForms x = Check.read(rule, text);
        for (int i = 0; i < wanted.length; i++) {
            if (wanted[i].isEmpty()) {
                for (int k = -2; k <= 3; k++) {
                    Check.due("written(" + i + ", " + k + ") of " + text, x.written(i, k), AbcForms.BAD);
                }
            } else {
                Check.spelled(x, i, wanted[i]);
            }
        }
    }

    private static void music(String music, String... wanted) {
        all(0, Check.tune("", music), wanted);
        all(1, Check.tune("", music), wanted);
    }

    private static void letters() {
        music("C D E F G A B c d e f g a b", "C", "D", "E", "F", "G", "A", "B", "c", "d", "e", "f", "g", "a",
                "b");
        music("C, c' C' c, C,', c'''' C,,,,, ^^B,,,,,,", "C,", "c'", "c", "C", "C,", "c''''", "C,,,,,",
                "^^B,,,,,,");
        music("[CE]2 [c]", "C2", "E2", "c");
    }

    private static void lengths() {
        music("C9 C10 C11 C1 C2 C64 C/ C/2 C// C/4 C/64 C3/2 C3/ C6/4 C2/2 C4/8 C64/64 C63/64 C/1",
                "C9", "C10", "C11", "C", "C2", "C64", "C/", "C/", "C/4", "C/4", "C/64", "C3/", "C3/", "C3/", "C", "C/", "C",
                "C63/64", "C");
    }

    private static void signs() {
        music("^c ^c =c =c __c _c ^^c", "^c", "c", "=c", "c", "__c", "_c", "^^c");
        music("[K:G] ^f =f f | f ^f _B", "", "f", "=f", "f", "", "f", "f", "_B");
        music("=c ^c | =c", "c", "^c", "", "c");
        all(0, Check.tune("", "^c ^C =c =C"), "^c", "C", "=c", "C");
        all(1, Check.tune("", "^c ^C =c =C"), "^c", "^C", "=c", "=C");
        music("^c- | ^c ^c", "^c", "", "c", "c");
        music("^c- | =c =c", "^c", "", "=c", "c");
        music("{^c}^c {=c}^c", "", "c", "", "^c");
        music("[^c^c=c]", "^c", "c", "=c");
    }

    private static void timesAsTheyAre() {
        music("(2CD C>D C<<D C>>>D", "C3/", "D3/", "C3/", "D/", "C/4", "D7/4", "C15/8", "D/8");
        music("(3CDE F (3:1:2C3D3/2", "", "", "", "F", "C", "D/");
        music("[C/64E]/2 [C5E]5", "", "E/", "C25", "E5");
    }

    private static void units() {
        all(0, Check.tune("L:1/64\n", "C/64 C64 [L:1/1] C [L:1/8] [V:2] C"), "C/64", "C64", "", "C", "", "C");
        all(0, Check.tune("L:1/1\n", "C8 C/64"), "C8", "C/64");
        all(0, Check.tune("M:2/4\n", "C2 C/ [C9E2]8 [C8E13]5"), "C2", "C/", "", "E16", "C40", "");
    }

    private static void noNotes() {
        all(0, Check.tune("M:4/4\n", "{C}z x Z | [K:C] [M:C] [L:1/8] C"), "", "", "", "", "", "", "", "", "C");
        AbcForms x = Check.music("^C3/4");
        int[] wrong = {5, -2, Integer.MIN_VALUE, Integer.MAX_VALUE};
        for (int k : wrong) {
            Check.due("written(0, " + k + ")", x.written(0, k), AbcForms.BAD);
        }
    }
}
