/** The boundary cases of Terms, part 3: each clause of what is PLAYED. */
public final class EdgesOfPlayedTest {
    public static void main(String[] args) {
        measuresOfVoice1();
        aheadOfTheFirstAndBehindTheLast();
        start();
        back();
        endOfWhatIsPassedOver();
        endOfAnEnding();
        theLastEnding();
        fromMeasure0On();
        aBeginningBySTART();
        startTurnsAgainToNo();
        notComeToByGoingBack();
        endingsThatGo();
        endingsThatDoNotGo();
        backTheFirstTime();
        backTheSecondTime();
        backOfAnEnding();
        endWithoutBack();
        thenTheNextOne();
        measuresOfAZ();
        aThousandAtMost();
        Check.finish();
    }

    private static void order(String music, int... wanted) {
        order("", music, wanted);
    }

    private static void order(String heads, String music, int... wanted) {
        String sentence = Check.context;
        for (int past = 0; past < Edge.pasts(); past++) {
            AbcForms x = Edge.withPast(0, past);
            Check.context = sentence + "; " + Edge.pastName(past) + "; " + music;
            Edge.feed(x, Check.tune(heads, music));
            Check.due("a tune", x.read() >= 0 ? 1 : 0, 1);
            Check.due("played(-1)", x.played(-1), wanted.length);
            for (int i = 0; i < wanted.length; i++) {
                Check.due("played(" + i + ")", x.played(i), wanted[i]);
            }
            Check.due("played(n)", x.played(wanted.length), AbcForms.BAD);
            Check.context = sentence;
        }
    }

    private static void measuresOfVoice1() {
        Edge.sentence("PLAYED are MEASURES of VOICE 1.");
        order("");
        order("C", 0);
        order("C | D", 0, 1);
        order("C | D |", 0, 1);
        order("[V:2]C | D :|");
        order("[V:2]C | D :|[V:1]E", 0);
        order("C[V:2]D :| E |1 F :|[V:1]| G", 0, 1);
        order("C[V:3]D |:[V:1]| E[V:2] :|[V:1]| F", 0, 1, 2);
        order("{c} | [K:C] ||");
    }

    private static void aheadOfTheFirstAndBehindTheLast() {
        Edge.sentence("Its BARS between two of them (ahead of the first, behind the last) tell");
        order("|: C :| D", 0, 0, 1);
        order(":| C | D", 0, 1);
        order("|1 C | D :|", 0, 1);
        order("|1 C || D :|", 0, 1, 1);
        order("|2 C || D", 1);
        order("C :|", 0, 0);
        order("C | D | | :|", 0, 1, 0, 1);
        order("C | D {c} :|", 0, 1, 0, 1);
        order("C |2", 0);
    }

    private static void start() {
        Edge.sentence("START: one is |: or ::");
        String[] others = {"|", "||", "|]", "[|"};
        for (String bar : others) {
            order("C " + bar + " D :| E", 0, 1, 0, 1, 2);
        }
        order("C |: D :| E", 0, 1, 1, 2);
        order("C :: D :| E", 0, 0, 1, 1, 2);
        order("C | |: D :| E", 0, 1, 1, 2);
        order("C |: | D :| E", 0, 1, 1, 2);
        order("C |: |1 D :| E", 0, 1, 2);
    }

    private static void back() {
        Edge.sentence("BACK: one is :| or ::");
        order("C | D", 0, 1);
        order("C || D", 0, 1);
        order("C |] D", 0, 1);
        order("C [| D", 0, 1);
        order("C |: D", 0, 1);
        order("C |1 D", 0, 1);
        order("C [1 D", 0, 1);
        order("C :| D", 0, 0, 1);
        order("C :: D", 0, 0, 1);
        order("C :|2 D", 0, 0);
        order("C :|1 D", 0, 0, 1);
        order("C | :| D", 0, 0, 1);
        order("C :| | D", 0, 0, 1);
        order("C :| :| D", 0, 0, 1);
    }

    private static void endOfWhatIsPassedOver() {
        Edge.sentence("END: one is no single | , or has an ENDING");
        order("|2 C | D", new int[0]);
        order("|2 C | D || E", 2);
        order("|2 C | | D || E", 2);
        String[] ends = {"||", "|]", "[|", "|:", ":|", "::", "|1", ":|1", "[1"};
        for (String end : ends) {
            order("|2 C " + end + " D", 1);
            order("|2 C | " + end + " D", 1);
            order("|2 C | D " + end + " E", 2);
        }
        order("|2 C |3 D || E", 2);
        order("|2 C [2 D || E", 2);
        order("|2 C :|4 D || E", 2);
    }

    private static void endOfAnEnding() {
        Edge.sentence("END: one is no single | , or has an ENDING");
        String first = "C |1 D :|2 E ";
        order(first + "| F :| G", 0, 1, 0, 2, 3, 4);
        order(first + "| | F :| G", 0, 1, 0, 2, 3, 4);
        order(first + "|| F :| G", 0, 1, 0, 2, 3, 3, 4);
        order(first + "|] F :| G", 0, 1, 0, 2, 3, 3, 4);
        order(first + "[| F :| G", 0, 1, 0, 2, 3, 3, 4);
        order(first + "|: F :| G", 0, 1, 0, 2, 3, 3, 4);
        order(first + "| || F :| G", 0, 1, 0, 2, 3, 3, 4);
        order(first + "|1 F :| G", 0, 1, 0, 2, 3, 4);
        order(first + "[1 F :|2 G", 0, 1, 0, 2, 3, 4);
        order(first + "|3 F || G", 0, 1, 0, 2, 4);
    }

    private static void theLastEnding() {
        Edge.sentence("the last ENDING.");
        order("C |1 |2 D || E", 0, 2);
        order("C |2 |1 D || E", 0, 1, 2);
        order("C |2 | D || E", 0, 2);
        order("C |1 || D || E", 0, 1, 2);
        order("C [2 [1 D || E", 0, 1, 2);
        order("C |1 D :|1 [2 E || F", 0, 1, 0, 2, 3);
        order("C |1 D :|2 [1 E || F", 0, 1, 0, 3);
    }

    private static void fromMeasure0On() {
        Edge.sentence("From MEASURE 0 on, with a beginning 0, AGAIN no, INSIDE no.");
        order("C | D :| E", 0, 1, 0, 1, 2);
        order("|1 C :| D", 0, 1);
        order("|2 C :| D", 1);
        order("C || D :| E", 0, 1, 0, 1, 2);
    }

    private static void aBeginningBySTART() {
        Edge.sentence("and START is before it: the beginning is m, AGAIN no.");
        order("C |: D | E :| F", 0, 1, 2, 1, 2, 3);
        order("|: C |: D :| E", 0, 1, 1, 2);
        order("|: C |: D |: E :| F", 0, 1, 2, 2, 3);
        order("C :| D |: E :| F", 0, 0, 1, 2, 2, 3);
        order("C :: D :: E :| F", 0, 0, 1, 1, 2, 2, 3);
    }

    private static void startTurnsAgainToNo() {
        Edge.sentence("and START is before it: the beginning is m, AGAIN no.");
        order("C |1 D :| E |: F :| G", 0, 1, 0, 2, 3, 3, 4);
        order("C |1 D :| |: E |1 F :|2 G", 0, 1, 0, 2, 3, 2, 4);
        order("C | |1 D :| |: |1 E :|2 F", 0, 1, 0, 2, 3);
    }

    private static void notComeToByGoingBack() {
        Edge.sentence("At MEASURE m, if it was not come to by going back");
        order("|: C :|", 0, 0);
        order("|: C :| |: D :| E", 0, 0, 1, 1, 2);
        order("|: C | D :|", 0, 1, 0, 1);
        order("C |: D :|2 E", 0, 1, 1);
    }

    private static void endingsThatGo() {
        Edge.sentence("If an ENDING is before it: 1 goes when AGAIN is no, others when it is yes: INSIDE yes;");
        order("C |1 D | E :| F", 0, 1, 2, 0, 3);
        for (int ending = 2; ending <= 4; ending++) {
            order("C |1 D :|" + ending + " E || F", 0, 1, 0, 2, 3);
            order("C |" + ending + " D || E", 0, 2);
            order("C [" + ending + " D | E || F", 0, 3);
        }
        order("C |1 D :|1 E || F", 0, 1, 0, 3);
    }

    private static void endingsThatDoNotGo() {
        Edge.sentence("if it does not go: m and those behind are passed over, up to the first with END behind it; INSIDE no; on behind that.");
        order("C |1 D | E | F :|2 G", 0, 1, 2, 3, 0, 4);
        order("C |1 D | E || F :|2 G", 0, 1, 2, 3, 0, 3);
        order("C |2 D | E", 0);
        order("C |2 D | E |", 0);
        order("C |2 D | E ||", 0);
        order("C |2 D :| E :| F", 0, 2, 0, 1, 2, 2, 3);
        order("C |2 D |3 E |4 F || G", 0, 4);
        order("C |2 D |: E :| F", 0, 2, 2, 3);
    }

    private static void backTheFirstTime() {
        Edge.sentence("With BACK behind it: INSIDE no; if AGAIN was no: it is yes, on from the beginning;");
        order("C :| D", 0, 0, 1);
        order("C | D | E :| F", 0, 1, 2, 0, 1, 2, 3);
        order("C |1 D :|2 E | F", 0, 1, 0, 2, 3);
        order("C |1 D :|2 E || F", 0, 1, 0, 2, 3);
    }

    private static void backTheSecondTime() {
        Edge.sentence("else AGAIN no, the beginning is the next one.");
        order("C :| D :| E", 0, 0, 1, 1, 2);
        order("C :| D | E :| F", 0, 0, 1, 2, 1, 2, 3);
        order("C :| D |1 E :|2 F || G", 0, 0, 1, 2, 1, 3, 4);
        order("C :| |1 D :|2 E || F", 0, 0, 1, 2, 3);
    }

    private static void backOfAnEnding() {
        Edge.sentence("With BACK behind it: INSIDE no;");
        order("C |1 D :|2 E :| F :| G", 0, 1, 0, 2, 3, 3, 4);
        order("C |1 D :|2 E :|3 F || G", 0, 1, 0, 2, 4);
        order("C |1 D :| E || F :| G", 0, 1, 0, 2, 3, 4);
    }

    private static void endWithoutBack() {
        Edge.sentence("Without BACK, with END behind it: if AGAIN and INSIDE are yes: AGAIN no, the beginning is the next one; INSIDE no.");
        order("C |1 D :|2 E || F :| G", 0, 1, 0, 2, 3, 3, 4);
        order("C |1 D :|2 E | F || G | A :| B", 0, 1, 0, 2, 3, 4, 5, 4, 5, 6);
        order("C |1 D :|2 E | F :| G", 0, 1, 0, 2, 3, 4);
        order("C || D :| E", 0, 1, 0, 1, 2);
        order("C |] D || E :| F", 0, 1, 2, 0, 1, 2, 3);
        order("C |1 D || E :| F", 0, 1, 2, 0, 2, 3);
        order("C |1 D :|2 E |1 F || G || A :| B", 0, 1, 0, 2, 3, 4, 5, 4, 5, 6);
    }

    private static void thenTheNextOne() {
        Edge.sentence("Else m is PLAYED.");
        Edge.sentence("Then the next one.");
        order("C | D | E | F", 0, 1, 2, 3);
        order("C || D |] E [| F", 0, 1, 2, 3);
        order("|: C | D :| E | F", 0, 1, 0, 1, 2, 3);
    }

    private static void measuresOfAZ() {
        Edge.sentence("Z ends all of its but the last one, which the next BAR ends.");
        order("M:4/4\n", "|: Z3 :| C", 0, 1, 2, 0, 1, 2, 3);
        order("M:4/4\n", "C |1 Z2 :|2 Z2 || D", 0, 1, 2, 0, 3, 4, 5);
        order("M:4/4\n", "|2 Z2 || Z2", 2, 3);
    }

    /** n second endings, of which each time round lets one more go, ahead of k MEASURES that go back: 2 k + n (k + 1). */
    private static String round(int n, int k) {
        return "|2C".repeat(n) + "||" + "C|".repeat(k - 1) + "C:|";
    }

    private static void told(String music, int wanted, int last) {
        Edge.asked(0, Check.tune("", music), Math.toIntExact(music.chars().filter(b -> b == 'C').count()
                + music.replace("||", "|").chars().filter(b -> b == '|').count()), x -> {
            Check.due("played(-1)", x.played(-1), wanted);
            Check.due("the last one", x.played(wanted - 1), last);
            Check.due("behind it", x.played(wanted), AbcForms.BAD);
        });
    }

    private static void aThousandAtMost() {
        Edge.sentence("1,000 are told at most.");
        told(round(1, 2), 7, 2);
        told(round(141, 6), 999, 146);
        told(round(141, 6) + "C", 1000, 147);
        told(round(141, 6) + "C|C", 1000, 147);
        told(round(165, 5), 1000, 169);
        told(round(165, 5) + "C", 1000, 169);
        told(round(57, 16), 1000, 71);
        told(round(40, 40), 1000, 39 + 1000 % 41);
        Edge.asked(0, Check.tune("M:4/4\n", "|:" + "Z15|".repeat(19) + "Z14:|C"), 42, x -> {
            Check.due("299 twice and one", x.played(-1), 599);
            Check.due("the last one", x.played(598), 299);
        });
        Edge.asked(0, Check.tune("M:4/4\n", "|:" + "Z15|".repeat(19) + "Z15:|"), 41, x -> {
            Check.due("300 twice", x.played(-1), 600);
            Check.due("the last one", x.played(599), 299);
        });
    }
}
