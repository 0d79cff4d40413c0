/** Promise 14: the order in which MEASURES of VOICE 1 are PLAYED. */
public final class PlayedTest {
    public static void main(String[] args) {
        plain();
        repeats();
        endings();
        endingsWithoutBack();
        manyBars();
        rests();
        otherVoices();
        atMost();
        wrongArguments();
        Check.finish();
    }

    private static void plain() {
        Check.order("");
        Check.order("| || :| |:");
        Check.order("C", 0);
        Check.order("C | D || E |] F", 0, 1, 2, 3);
    }

    private static void repeats() {
        Check.order("C | D :| E", 0, 1, 0, 1, 2);
        Check.order("C |: D | E :| F", 0, 1, 2, 1, 2, 3);
        Check.order("|: C :: D :| E :| F", 0, 0, 1, 1, 2, 2, 3);
        Check.order("C :| D :| E", 0, 0, 1, 1, 2);
        Check.order("C |: D |: E :| F", 0, 1, 2, 2, 3);
        Check.order("C :| D | E :|", 0, 0, 1, 2, 1, 2);
        Check.order("C :: D :|", 0, 0, 1, 1);
        Check.order("C || D :|", 0, 1, 0, 1);
        Check.order("|: C :| D |: E | F :|", 0, 0, 1, 2, 3, 2, 3);
    }

    private static void endings() {
        Check.order("C |1 D :|2 E | F", 0, 1, 0, 2, 3);
        Check.order("C |1 D | E :|2 F | G || A", 0, 1, 2, 0, 3, 4, 5);
        Check.order("|: C [1 D :| [2 E :| F", 0, 1, 0, 2, 3);
        Check.order("C |1 D :|2 E :|3 F || G", 0, 1, 0, 2, 4);
        Check.order("C |1 D :|4 E || F :|", 0, 1, 0, 2, 3, 3);
        Check.order("|1 C :| D", 0, 1);
        Check.order("|2 C || D", 1);
        Check.order("|2 C | D", new int[0]);
        Check.order("|2 C |1 D", 1);
        Check.order("C |1 D :| E |: F :|", 0, 1, 0, 2, 3, 3);
        Check.order("C |1 D |2 E :| F", 0, 1, 3);
        Check.order("C |1 D :|2 E |: F :|", 0, 1, 0, 2, 3, 3);
    }

    private static void endingsWithoutBack() {
        Check.order("C |1 D || E :| F", 0, 1, 2, 0, 2, 3);
        Check.order("C |1 D :|2 E || F |1 G :|2 A", 0, 1, 0, 2, 3, 4, 3, 5);
        Check.order("C |1 D :| E || F :| G", 0, 1, 0, 2, 3, 4);
        Check.order("C |1 D :|2 E | F | G :| A", 0, 1, 0, 2, 3, 4, 5);
    }

    private static void manyBars() {
        Check.order("C | |: D :| | E", 0, 1, 1, 2);
        Check.order("C |1 |2 D || E", 0, 2);
        Check.order("C |2 |1 D :| | [2 E", 0, 1, 0, 2);
        Check.order("|: :| C :|", 0, 0);
        Check.order("C |: :| D || E", 0, 0, 1, 2);
    }

    private static void rests() {
        AbcForms x = Check.read(0, Check.tune("M:4/4\n", "|: Z3 | C :| Z2 :|"));
        int[] wanted = {0, 1, 2, 3, 0, 1, 2, 3, 4, 5, 4, 5};
        Check.due("played(-1)", x.played(-1), wanted.length);
        for (int i = 0; i < wanted.length; i++) {
            Check.due("played(" + i + ")", x.played(i), wanted[i]);
        }
    }

    private static void otherVoices() {
        Check.order("C | [V:2] D :| E :| [V:1] F |", 0, 1);
        Check.order("[V:3] D :| E :|");
    }

    private static void atMost() {
        AbcForms x = Check.read(0, Check.tune("M:4/4\n", "Z16|".repeat(18) + "Z11|C|"));
        Check.due("300", x.played(-1), 300);
        AbcForms y = Check.read(0, Check.tune("M:4/4\n", "|: " + "Z16|".repeat(18) + "Z11|C:|"));
        Check.due("600", y.played(-1), 600);
        Check.due("the 599th", y.played(599), 299);
        Check.due("the 600th", y.played(600), AbcForms.BAD);
        cutOff();
    }

    /** Each time round lets one more second ending go, so that 80 MEASURES would be 1,680 PLAYED. */
    private static void cutOff() {
        String music = "|2C".repeat(40) + "||" + "C|".repeat(39) + "C:|";
        AbcForms x = Check.music(music);
        Check.due("MEASURES", x.measures(1), 80);
        Check.due("at most", x.played(-1), 1000);
        for (int i = 0; i < 1000; i++) {
            // An object is promised for 512 calls.
            x = i % 400 == 0 ? Check.music(music) : x;
            int round = (i + 1) / 41;
            int behind = (i + 1) % 41;
            Check.due("played(" + i + ")", x.played(i), behind == 0 ? round - 1 : 39 + behind);
        }
        Check.due("the 1,000th", x.played(1000), AbcForms.BAD);
        Check.order("|2 C || D | E :|", 1, 2, 0, 1, 2, 1, 2);
    }

    private static void wrongArguments() {
        AbcForms x = Check.music("C|D");
        int[] wrong = {2, -2, 1000, Integer.MIN_VALUE, Integer.MAX_VALUE};
        for (int i : wrong) {
            Check.due("played(" + i + ")", x.played(i), AbcForms.BAD);
        }
    }
}
