/** Promise 8: what thing(i, what) tells of each sort of THING. */
public final class ThingsTest {
    public static void main(String[] args) {
        sorts();
        bars();
        notes();
        chords();
        ornaments();
        slurs();
        measuresAndVoices();
        allVoices();
        places();
        wrongArguments();
        Check.finish();
    }

    private static void row(AbcForms x, int i, int... wanted) {
        for (int what = 0; what < wanted.length; what++) {
            Check.due("thing(" + i + ", " + what + ")", x.thing(i, what), wanted[what]);
        }
    }

    private static void sorts() {
        AbcForms x = Check.read(0, Check.tune("M:4/4\n", "^C,2-z x2|Z3 {_e'}[K:Bb]\n"
                + "M:6/8\nL:1/16\n[M:none]\n"));
        row(x, 0, 0, 1, 0, 49, 0, 3, 1, 1, 1, 1, 0, 0, 0, 0, 0, 0, 18);
        row(x, 1, 1, 1, 0, 0, 0, 0, 0, 0, 0, 0, 0, 0, 0, 0, 0, 0, 23);
        row(x, 2, 2, 1, 0, 0, 0, 0, 0, 0, 0, 0, 0, 0, 0, 0, 0, 0, 25);
        row(x, 3, 4, 1, 0, 0, 0, 0, 0, 0, 0, 0, 0, 0, 0, 0, 0, 0, 27);
        row(x, 4, 3, 1, 1, 3, 0, 0, 0, 0, 0, 0, 0, 0, 0, 0, 0, 0, 28);
        row(x, 5, 5, 1, 3, 87, 2, 6, -1, 1, 0, 1, 0, 0, 0, 0, 0, 0, 32);
        row(x, 6, 6, 1, 3, -2, 0, 0, 0, 0, 0, 0, 0, 0, 0, 0, 0, 0, 36);
        row(x, 7, 7, 1, 3, 6, 8, 0, 0, 0, 0, 0, 0, 0, 0, 0, 0, 0, 43);
        row(x, 8, 8, 1, 3, 16, 0, 0, 0, 0, 0, 0, 0, 0, 0, 0, 0, 0, 49);
        row(x, 9, 7, 1, 3, 0, 0, 0, 0, 0, 0, 0, 0, 0, 0, 0, 0, 0, 56);
        Check.due("THINGS", x.head(7), 10);
    }

    private static void bars() {
        AbcForms x = Check.music("| || |] [| |: :| :: [1 |2 :|3 [4 |::| :||1 |||");
        Check.cells(x, 3, 0, 0, 1, 2, 3, 4, 5, 6, 7, 0, 5, 7, 4, 5, 5, 0, 1, 0);
        Check.cells(x, 15, 0, 0, 0, 0, 0, 0, 0, 0, 1, 2, 3, 4, 0, 0, 0, 1, 0, 0);
        Check.cells(x, 0, 0, 4, 4, 4, 4, 4, 4, 4, 4, 4, 4, 4, 4, 4, 4, 4, 4, 4);
        Check.due("no more", x.thing(17, 0), AbcForms.BAD);
        AbcForms y = Check.music("|[1|[|:::|");
        Check.cells(y, 3, 0, 0, 7, 0, 3);
    }

    private static void notes() {
        AbcForms x = Check.music("C D E F G A B c d e f g a b C, c' C,', ^^C __c' =B,,,,, G'''''");
        Check.cells(x, 3, 0, 60, 62, 64, 65, 67, 69, 71, 72, 74, 76, 77, 79, 81, 83, 48, 84, 48, 62, 82,
                11, 127);
        Check.cells(x, 4, 0, 0, 1, 2, 3, 4, 5, 6, 0, 1, 2, 3, 4, 5, 6, 0, 0, 0, 0, 0, 6, 4);
        Check.cells(x, 5, 0, 4, 4, 4, 4, 4, 4, 4, 5, 5, 5, 5, 5, 5, 5, 3, 6, 3, 4, 6, -1, 9);
        Check.cells(x, 6, 17, 2, -2, 0, 0);
        Check.cells(x, 7, 16, 0, 1, 1, 1, 0);
        AbcForms y = Check.music("C,,,,, _D,,,,, ^^B,,,,,, g'''' __a''''");
        Check.cells(y, 3, 0, 0, 1, 1, 127, 127);
    }

    private static void chords() {
        AbcForms x = Check.music("[c^eg]- [c] C- D z");
        Check.cells(x, 9, 0, 3, 3, 3, 1, 1, 1, 0);
        Check.cells(x, 10, 0, 0, 1, 2, 0, 0, 0, 0);
        Check.cells(x, 8, 0, 1, 1, 1, 0, 1, 0, 0);
        Check.cells(x, 16, 0, 13, 14, 16, 21, 24, 27, 29);
        AbcForms y = Check.music("[CDEFGABcdefg]{CDEFGABc}");
        Check.cells(y, 9, 0, 12, 12, 12, 12, 12, 12, 12, 12, 12, 12, 12, 12, 1, 1, 1, 1, 1, 1, 1, 1);
        Check.cells(y, 10, 0, 0, 1, 2, 3, 4, 5, 6, 7, 8, 9, 10, 11, 0, 0, 0, 0, 0, 0, 0, 0);
        Check.cells(y, 0, 10, 0, 0, 5, 5, 5, 5, 5, 5, 5, 5);
    }

    private static void ornaments() {
        AbcForms x = Check.read(0, Check.tune("M:4/4\n", ".C ~D HE TF MG PA uB vc ..~d e .~HTMPuv[ce]"));
        Check.cells(x, 11, 0, 1, 2, 4, 8, 16, 32, 64, 128, 3, 0, 255, 0);
        AbcForms y = Check.read(0, Check.tune("M:4/4\n",
                "\"Gm\"!trill! \"\" C D . | Z {c} [V:2] (\n\"12345678901234567890\" z !abcdefghijkL! x) .\"a\""));
        Check.cells(y, 12, 0, 3, 0, 0, 0, 0, 1, 1);
        Check.cells(y, 11, 0, 0, 0, 0, 0, 0, 1, 0);
        Check.cells(y, 13, 0, 0, 0, 0, 0, 0, 1, 0);
        Check.cells(y, 14, 0, 0, 0, 0, 0, 0, 0, 1);
        Check.cells(y, 1, 0, 1, 1, 1, 1, 1, 2, 2);
    }

    private static void slurs() {
        AbcForms x = Check.music("((C D) [ce] (z)) | ([V:3] d [V:1])");
        Check.cells(x, 13, 0, 2, 0, 0, 0, 1, 0, 1);
        Check.cells(x, 14, 0, 0, 1, 0, 0, 2, 0, 1);
        AbcForms y = Check.music("(())C(((([ce]))))(d)");
        Check.cells(y, 13, 0, 2, 4, 0, 1);
        Check.cells(y, 14, 0, 0, 4, 0, 1);
        Check.cells(Check.music("| () C"), 14, 0, 0, 0);
        AbcForms z = Check.music("(3(CDE)");
        Check.cells(z, 13, 0, 1, 0, 0);
        Check.cells(z, 14, 0, 0, 0, 1);
    }

    private static void measuresAndVoices() {
        AbcForms x = Check.read(0, Check.tune("M:2/4\n",
                "|: {c}C4 [K:G] | | {d} || [L:1/8] D | Z3 {e} E || [V:2] | F | [V:1] z"));
        Check.cells(x, 0, 0, 4, 5, 0, 6, 4, 4, 5, 4, 8, 0, 4, 3, 5, 0, 4, 4, 0, 4, 1);
        Check.cells(x, 2, 0, 0, 0, 0, 0, 0, 1, 1, 1, 1, 1, 1, 2, 4, 4, 4, 0, 0, 0, 5);
        Check.cells(x, 1, 0, 1, 1, 1, 1, 1, 1, 1, 1, 1, 1, 1, 1, 1, 1, 1, 2, 2, 2, 1);
    }

    private static void allVoices() {
        AbcForms x = Check.read(0, Check.tune("M:2/4\n", "[V:3] C | [V:2] Z {c} [V:1] [K:G]\nV:3\nz"));
        Check.cells(x, 1, 0, 3, 3, 2, 2, 1, 3);
    }

    private static void places() {
        AbcForms x = Check.read(0, "X:1\nT:a % b\nM:C\nK:C\n{^c=d}[^ce] :| _E [K: C ]\nK:C\n Z2 [2 z");
        Check.cells(x, 16, 0, 21, 23, 27, 29, 32, 35, 38, 46, 51, 54, 57);
    }

    private static void wrongArguments() {
        AbcForms x = Check.music("C D");
        int[] wrong = {-1, 17, Integer.MIN_VALUE, Integer.MAX_VALUE};
        for (int what : wrong) {
            Check.due("thing(0, " + what + ")", x.thing(0, what), AbcForms.BAD);
        }
        int[] none = {-1, 2, 400, Integer.MIN_VALUE, Integer.MAX_VALUE};
        for (int i : none) {
            Check.due("thing(" + i + ", 0)", x.thing(i, 0), AbcForms.BAD);
            Check.due("time(" + i + ")", x.time(i), AbcForms.BAD);
            Check.due("start(" + i + ")", x.start(i), AbcForms.BAD);
            Check.due("written(" + i + ", -1)", x.written(i, -1), AbcForms.BAD);
        }
    }
}
