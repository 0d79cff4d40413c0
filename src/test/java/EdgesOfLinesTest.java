/** The boundary cases of Terms, part 1: the text, its lines, and what is passed over in them. */
public final class EdgesOfLinesTest {
    private static final String HEADS = "X:1\nT:a\nK:C\n";

    public static void main(String[] args) {
        everyByteOfATitle();
        everyByteOfMusic();
        lastLineWithoutItsTen();
        allFromAPercentOn();
        blanksAtTheEnd();
        aBackslashThatIsLast();
        blanksAheadOfABackslashStay();
        aLineWithoutAnything();
        onlySuchLinesMayFollow();
        aLineWithoutAnythingInTheHeads();
        readAsFarAsItGoes();
        aWordIsThereWholeOrNotAtAll();
        Check.finish();
    }

    private static void everyByteOfATitle() {
        Edge.sentence("A TEXT: lines of bytes 32 ..");
        Edge.sentence("126, each ended by a 10");
        for (int b = 0; b <= 255; b++) {
            String text = "X:1\nT:a" + (char) b + "c\nK:C\n";
            if (b == 10) {
                Edge.refused(text, 1, 8);
            } else if (b < 32 || b > 126) {
                Edge.refused(text, 1, 7);
            } else {
                int size = b == '%' ? 1 : 3;
                int at = b == '%' ? AbcForms.BAD : b;
                Edge.asked(text, 0, x -> {
                    Check.due("title(0, -1)", x.title(0, -1), size);
                    Check.due("title(0, 1)", x.title(0, 1), at);
                });
            }
        }
    }

    private static void everyByteOfMusic() {
        Edge.sentence("126, each ended by a 10");
        Edge.refused(HEADS + "C\u001fD", 1, 13);
        Edge.let(HEADS + "C D", 2);
        Edge.let(HEADS + "C~D", 2);
        Edge.refused(HEADS + "C\u007fD", 1, 13);
        Edge.let(HEADS + "C\nD", 2);
        Edge.refused(HEADS + "C\u0009D", 1, 13);
        Edge.refused(HEADS + "C\u000bD", 1, 13);
        Edge.refused(HEADS + "C\r\nD", 1, 13);
        Edge.refused(HEADS + "C\u0000", 1, 13);
        Edge.refused(HEADS + "C\u0080", 1, 13);
        Edge.refused(HEADS + "C\u00ff", 1, 13);
    }

    private static void lastLineWithoutItsTen() {
        Edge.sentence("each ended by a 10 (the last one may go without).");
        Edge.let("X:1\nT:a\nK:C", 0);
        Edge.let("X:1\nT:a\nK:C\n", 0);
        Edge.let(HEADS + "C", 1);
        Edge.let(HEADS + "C\n", 1);
        Edge.let(HEADS + "C\n\n", 1);
        Edge.let(HEADS + "[K:G]\nK:D", 2);
        Edge.refused(HEADS + "[", 1, 13);
        Edge.refused(HEADS + "[\n", 1, 13);
        Edge.refused("X:1\nT:a", 1, 7);
        Edge.refused("X:1\nT:a\n", 1, 8);
    }

    private static void allFromAPercentOn() {
        Edge.sentence("In a line all from a % on (bytes of any sort), then blanks at its end, are passed over");
        for (int b = 0; b <= 255; b++) {
            String behind = "%" + (char) b + "?";
            if (b == 10) {
                Edge.refused(HEADS + "C" + behind, 1, 15);
            } else {
                Edge.let(HEADS + "C" + behind + "\nD", 2);
                Edge.let("X:1" + behind + "\nT:a" + behind + "\nK:C" + behind, 0);
            }
        }
        Edge.asked("X:12%3\nT:ab%c\nQ:4%5\nK:C%#\nC%D", 1, x -> {
            Check.due("X", x.head(0), 12);
            Check.due("T", x.title(0, -1), 2);
            Check.due("Q", x.head(5), 4);
            Check.due("SIGNS", x.head(6), 0);
        });
        Edge.refused(HEADS + "\"a%b\"", 1, 14);
        Edge.refused(HEADS + "[C%E]", 1, 14);
    }

    private static void blanksAtTheEnd() {
        Edge.sentence("then blanks at its end, are passed over");
        Edge.asked("X:1   \nT:a b   \nM:C  %\nL:1/4  \nQ:9 \nK:C   \nC   ", 1, x -> {
            Check.due("T", x.title(0, -1), 3);
            Check.due("M", x.head(2), 4);
            Check.due("Q", x.head(5), 9);
        });
        Edge.let("X:1 % \nT:a  %  \nK:C %\nK:G   %\nV:2   ", 1);
        Edge.refused("X:   \nT:a\nK:C", 1, 2);
        Edge.refused("X:1\nT:a\nM:4/   %4\nK:C", 1, 12);
        Edge.refused(HEADS + "C>   \nD", 5, 14);
        Edge.refused(HEADS + "^   %C", 1, 13);
        Edge.refused("X:1 1  \nT:a\nK:C", 1, 3);
    }

    private static void aBackslashThatIsLast() {
        Edge.sentence("a \\ that is last then, too");
        Edge.let("X:1\\\nT:a\\\nM:C\\\nL:1/8\\\nQ:1\\\nK:C\\\nC\\", 1);
        Edge.asked("X:1\nT:a\\\nK:C\n", 0, x -> Check.due("T", x.title(0, -1), 1));
        Edge.asked("X:1\nT:a\\\\\nK:C\n", 0, x -> Check.due("T", x.title(0, -1), 2));
        Edge.asked("X:1\nT:a\\b\nK:C\n", 0, x -> Check.due("T", x.title(0, -1), 3));
        Edge.let(HEADS + "C\\\nD", 2);
        Edge.let(HEADS + "C\\   \nD", 2);
        Edge.let(HEADS + "C\\%\nD", 2);
        Edge.let(HEADS + "C\\  % x\nD", 2);
        Edge.let(HEADS + "C%\\\nD", 2);
        Edge.let(HEADS + "K:G\\\nV:2\\\nD", 2);
        Edge.refused(HEADS + "C\\\\\nD", 1, 13);
        Edge.refused(HEADS + "C\\ \\\nD", 1, 13);
        Edge.refused(HEADS + "C\\D", 1, 13);
        Edge.refused(HEADS + "C\\ D", 1, 13);
        Edge.refused(HEADS + "^\\\nD", 1, 13);
        Edge.refused(HEADS + "C>\\\nD", 5, 14);
    }

    private static void blanksAheadOfABackslashStay() {
        Edge.sentence("(blanks ahead of this stay)");
        Edge.asked("X:1\nT: a  \\\nT:  \\\nK:C\n", 0, x -> {
            Check.due("T", x.title(0, -1), 3);
            Check.due("its last byte", x.title(0, 2), ' ');
            Check.due("T of blanks alone", x.title(1, -1), 0);
        });
        Edge.let(HEADS + "C  \\\nD", 2);
        Edge.refused("X:1 \\\nT:a\nK:C\n", 1, 3);
        Edge.refused("X:1\nT:a\nK:C \\\n", 1, 11);
        Edge.refused(HEADS + "K:G \\\nD", 1, 15);
        Edge.refused(HEADS + "C> \\\nD", 5, 15);
    }

    private static void aLineWithoutAnything() {
        Edge.sentence("A line without anything (before that) ends the tune");
        String[] without = {"", " ", "   ", "%", "% x", "  %", "  % \u0001", "\\", "\\ ", "\\%", "\\  % x"};
        for (String line : without) {
            Edge.let(HEADS + "C\n" + line + "\n", 1);
            Edge.let(HEADS + line, 0);
            Edge.refused(HEADS + "C\n" + line + "\nD", 1, 15 + line.length());
        }
        String[] with = {" \\", "  \\", " \\%", "|", "\"\"", ".", "V:1"};
        for (String line : with) {
            Edge.let(HEADS + "C\n" + line + "\nD", line.equals("|") ? 3 : 2);
        }
    }

    private static void onlySuchLinesMayFollow() {
        Edge.sentence("ends the tune: only such lines may follow.");
        Edge.let(HEADS + "C\n\n\n  \n%\n % x\n\\\n\n", 1);
        String[] with = {"D", " D", "V:1", "K:C", "X:1", "|", " \\", "?", ".", "C,,,,,,", ")"};
        for (String line : with) {
            Edge.refused(HEADS + "C\n\n" + line, 1, 15);
            Edge.refused(HEADS + "C\n\n\n" + line + "\n", 1, 16);
            Edge.refused(HEADS + "%\n %\n" + line, 1, 17);
        }
        Edge.refused(HEADS + "(C\n\n", 6, 16);
        Edge.refused(HEADS + "(C\n\nD)", 1, 16);
    }

    private static void aLineWithoutAnythingInTheHeads() {
        Edge.sentence("A line without anything (before that) ends the tune: only such lines may follow.");
        Edge.refused("\nX:1\nT:a\nK:C\n", 1, 0);
        Edge.refused("%\nX:1\nT:a\nK:C\n", 1, 0);
        Edge.refused("X:1\n\nT:a\nK:C\n", 1, 4);
        Edge.refused("X:1\nT:a\n  %\nK:C\n", 1, 8);
        Edge.refused("X:1\nT:a\nM:C\n\nK:C\n", 1, 12);
        Edge.let("X:1\nT:a\nM:C\nK:C\n\n", 0);
    }

    private static void readAsFarAsItGoes() {
        Edge.sentence("What is there is read as far as it goes");
        Edge.refused("X:1x\n", 1, 3);
        Edge.refused("X:1 x\n", 1, 3);
        Edge.refused("X:1,0\n", 1, 3);
        Edge.refused("X:1\nT:a\nM:C||\nK:C\n", 1, 12);
        Edge.refused("X:1\nT:a\nM:CC\nK:C\n", 1, 11);
        Edge.refused("X:1\nT:a\nM:4/4/\nK:C\n", 1, 13);
        Edge.refused("X:1\nT:a\nL:1/4/\nK:C\n", 1, 13);
        Edge.refused("X:1\nT:a\nQ:9.\nK:C\n", 1, 11);
        Edge.refused("X:1\nT:a\nK:C##\n", 1, 12);
        Edge.refused("X:1\nT:a\nK:Cb#\n", 1, 12);
        Edge.refused("X:1\nT:a\nK:C major\n", 1, 11);
        Edge.refused(HEADS + "V:2,", 1, 15);
        Edge.refused(HEADS + "[V:2,]", 1, 16);
        Edge.refused(HEADS + "[M:3/4 /]", 1, 19);
        Edge.let(HEADS + "[M:3/4 ][M:C|][M:C]", 3);
    }

    private static void aWordIsThereWholeOrNotAtAll() {
        Edge.sentence("a word (none, a mode) is there whole or not at all.");
        String[] words = {"maj", "ion", "min", "aeo", "dor", "phr", "lyd", "mix", "loc"};
        for (String word : words) {
            // A word that begins with m is a whole m as far as it goes.
            int first = word.charAt(0) == 'm' ? 12 : 11;
            Edge.let("X:1\nT:a\nK:C" + word, 0);
            Edge.refused("X:1\nT:a\nK:C" + word.substring(0, 2), 1, first);
            Edge.refused("X:1\nT:a\nK:C" + word.substring(0, 2) + " " + word.charAt(2), 1, first);
            Edge.refused("X:1\nT:a\nK:C" + word + "x", 1, 14);
            Edge.refused("X:1\nT:a\nK:C" + word.toUpperCase(), 1, 11);
            Edge.refused(HEADS + "[K:C" + word.substring(0, 2) + "]", 1, first + 5);
        }
        Edge.let("X:1\nT:a\nK:Cm", 0);
        Edge.refused("X:1\nT:a\nK:Cmm", 1, 12);
        Edge.let("X:1\nT:a\nM:none\nK:none", 0);
        Edge.refused("X:1\nT:a\nK:non", 1, 10);
        Edge.refused("X:1\nT:a\nK:nonE", 1, 10);
        Edge.refused("X:1\nT:a\nK:nonem", 1, 14);
        Edge.refused("X:1\nT:a\nM:non\nK:C", 1, 10);
        Edge.refused("X:1\nT:a\nM:nones\nK:C", 1, 14);
    }
}
