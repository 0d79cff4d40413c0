/** Promise 8, PITCH and SIGN: keys, both RULEs, ties, graces and VOICES. */
public final class SignsTest {
    public static void main(String[] args) {
        keys();
        bothRules();
        bars();
        graces();
        chords();
        ties();
        voices();
        Check.finish();
    }

    private static void signs(int rule, String music, int... wanted) {
        Check.cells(Check.read(rule, Check.tune("M:4/4\n", music)), 6, 0, wanted);
    }

    private static void bothSigns(String music, int... wanted) {
        signs(0, music, wanted);
        signs(1, music, wanted);
    }

    private static void keys() {
        bothSigns("[K:C#]FCGDAEB", 0, 1, 1, 1, 1, 1, 1, 1);
        bothSigns("[K:G]FCGDAEB[K:D]FCGDAEB[K:B]FCGDAEB", 0, 1, 0, 0, 0, 0, 0, 0, 0, 1, 1, 0, 0, 0, 0, 0,
                0, 1, 1, 1, 1, 1, 0, 0);
        bothSigns("[K:F]BEADGCF[K:Bb]BEADGCF[K:Cb]BEADGCF", 0, -1, 0, 0, 0, 0, 0, 0, 0, -1, -1, 0, 0, 0, 0,
                0, 0, -1, -1, -1, -1, -1, -1, -1);
        bothSigns("[K:none]FBfb'", 0, 0, 0, 0, 0);
        String sharps = "FCGDAEB";
        String flats = "BEADGCF";
        String[] sharpKeys = {"C", "G", "D", "A", "E", "B", "F#", "C#"};
        String[] flatKeys = {"C", "F", "Bb", "Eb", "Ab", "Db", "Gb", "Cb"};
        for (int many = 0; many <= 7; many++) {
            AbcForms sharp = Check.read(0, "X:1\nT:a\nK:" + sharpKeys[many] + "\n" + sharps);
            AbcForms flat = Check.read(1, "X:1\nT:a\nK:" + flatKeys[many] + "\n" + flats);
            for (int i = 0; i < 7; i++) {
                Check.cells(sharp, 6, i, i < many ? 1 : 0);
                Check.cells(flat, 6, i, i < many ? -1 : 0);
            }
        }
        AbcForms x = Check.read(0, "X:1\nT:a\nK:Eb\nB e =e A,");
        Check.cells(x, 3, 0, 70, 75, 76, 56);
    }

    private static void bothRules() {
        signs(0, "^c C c' c, =C c", 1, 1, 1, 1, 0, 0);
        signs(1, "^c C c' c, =C c", 1, 0, 0, 0, 0, 1);
        bothSigns("^^c c __c c =c c", 2, 2, -2, -2, 0, 0);
        signs(0, "c' _C, c' d", 0, -1, -1, 0);
        signs(1, "c, _C c, c d", 0, -1, -1, 0, 0);
        Check.cells(Check.read(0, Check.tune("", "^c C c")), 7, 0, 1, 0, 0);
        bothSigns("^^B,,,,,, B,,,,,, ^C,,,,, C,,,,, _D,,,, D,,,,", 2, 2, 1, 1, -1, -1);
        bothSigns("__a a _g g", -2, -2, -1, -1);
    }

    private static void bars() {
        bothSigns("^c | c ^c || c ^c |: c ^c :| c ^c :: c ^c [| c ^c |] c ^c [1 c ^c",
                1, 0, 0, 1, 0, 0, 1, 0, 0, 1, 0, 0, 1, 0, 0, 1, 0, 0, 1, 0, 0, 1, 0, 0, 1);
        bothSigns("^c Z c", 1, 0, 0);
        bothSigns("^c [K:G] c f [M:3/4] [L:1/4] c\nc", 1, 0, 1, 1, 0, 0, 1, 1);
        bothSigns("^c z x c", 1, 0, 0, 1);
    }

    private static void graces() {
        bothSigns("{^c}c {c=c}c", 1, 1, 1, 0, 0);
        signs(0, "^C {c}", 1, 1);
        signs(1, "^C {c}", 1, 0);
        bothSigns("^c- | {c} c", 1, 0, 0, 1);
        bothSigns("^c- {=c} c c", 1, 0, 1, 0);
    }

    private static void chords() {
        signs(0, "[^cCc]", 1, 1, 1);
        signs(1, "[^cCc]", 1, 0, 1);
        bothSigns("[c^c] c", 0, 1, 1);
    }

    private static void ties() {
        bothSigns("^c- | c c", 1, 0, 1, 0);
        bothSigns("^c- | C", 1, 0, 0);
        bothSigns("^c- | d c", 1, 0, 0, 0);
        bothSigns("^c- | z c", 1, 0, 0, 0);
        bothSigns("^c- | Z | c", 1, 0, 0, 0, 0);
        bothSigns("^c- | =c c", 1, 0, 0, 0);
        bothSigns("^c- | c- | c | c", 1, 0, 1, 0, 1, 0, 0);
        bothSigns("^c- | [K:F] [Bc] c", 1, 0, 0, -1, 1, 0);
        bothSigns("[e^c^^c]- | c", 0, 1, 2, 0, 1);
        bothSigns("[^ce]2- | [ec]", 1, 0, 0, 0, 1);
        bothSigns("[^c=c]- c c", 1, 0, 1, 0);
        bothSigns("^c- | [=cc]", 1, 0, 0, 1);
        bothSigns("^c- | {e} c", 1, 0, 0, 1);
        signs(0, "^c- | C c", 1, 0, 0, 0);
        bothSigns("c ^d- | d", 0, 1, 0, 1);
        bothSigns("[K:C#] z C,,,, | Z C,,,,", 0, 0, 1, 0, 0, 1);
        AbcForms x = Check.music("^c'- | c'");
        Check.cells(x, 7, 0, 1, 0, 0);
        Check.cells(x, 3, 0, 85, 0, 85);
        Check.cells(x, 8, 0, 1, 0, 0);
    }

    private static void voices() {
        bothSigns("^c [V:2] c _c | [V:1] c [V:2] c", 1, 0, -1, 0, 1, 0);
        bothSigns("^c- [V:2] c c- [V:1] | c", 1, 0, 0, 0, 1);
        bothSigns("[K:G] f [V:2] f [K:F] b [V:3] f b [V:1] f b", 0, 1, 0, 0, -1, 0, 0, 1, 0);
    }
}
