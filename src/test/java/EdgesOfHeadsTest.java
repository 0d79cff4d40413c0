/** The boundary cases of Terms, part 1: the heads, their numbers and their order, meters, units and keys. */
public final class EdgesOfHeadsTest {
    private static final String LETTERS = "FCGDAEB";
    private static final String[] MODES = {"", "maj", "ion", "m", "min", "aeo", "dor", "phr", "lyd", "mix", "loc"};
    private static final int[] MODE_SIGNS = {0, 0, 0, -3, -3, -3, -2, -4, 1, -1, -5};

    public static void main(String[] args) {
        numberOfX();
        xIsFirst();
        oneToThreeTitles();
        anyTextOfATitle();
        eachAtMostOnceInAnyOrder();
        numberOfQ();
        thenKey();
        aHeadWithoutItsColon();
        linesBehindKey();
        voicesOfLines();
        blanksBehindTheColon();
        numberOfAMeter();
        lowerOneOfAMeter();
        wordsOfAMeter();
        lowerOneOfAUnit();
        withoutM();
        withoutL();
        aUnitToldLater();
        aMeterChangesNoUnit();
        keysOfAllLettersAndModes();
        keyNone();
        lettersOfAKey();
        orderOfSharpsAndFlats();
        Check.finish();
    }

    private static boolean isOneOf(int number, int most) {
        return number >= 1 && number <= most && Integer.bitCount(number) == 1;
    }

    private static void numberOfX() {
        Edge.sentence("X: number 1 .. 9,999.");
        Edge.refused("X:0\nT:a\nK:C\n", 1, 2);
        Edge.asked("X:1\nT:a\nK:C\n", 0, x -> Check.due("X", x.head(0), 1));
        Edge.asked("X:9999\nT:a\nK:C\n", 0, x -> Check.due("X", x.head(0), 9999));
        Edge.refused("X:10000\nT:a\nK:C\n", 1, 2);
        Edge.refused("X:4294967297\nT:a\nK:C\n", 1, 2);
        Edge.refused("X:18446744073709551617\nT:a\nK:C\n", 1, 2);
        Edge.refused("X:-1\nT:a\nK:C\n", 1, 2);
        Edge.refused("X:\nT:a\nK:C\n", 1, 2);
        Edge.refused("X:", 1, 2);
        Edge.refused("X:  a\n", 1, 4);
        Edge.refused("X:  0\n", 1, 4);
    }

    private static void xIsFirst() {
        Edge.sentence("HEADS, each a line: X: number 1 .. 9,999. Then T:");
        Edge.refused("", 1, 0);
        Edge.refused("T:a\nX:1\nK:C\n", 1, 0);
        Edge.refused("M:C\nX:1\nT:a\nK:C\n", 1, 0);
        Edge.refused("K:C\n", 1, 0);
        Edge.refused("X:1\nX:1\nT:a\nK:C\n", 1, 4);
        Edge.refused("X:1\nT:a\nX:1\nK:C\n", 1, 8);
        Edge.refused("X:1\nT:a\nM:C\nX:1\nK:C\n", 1, 12);
        Edge.refused("X:1\n", 1, 4);
        Edge.refused("X:1", 1, 3);
    }

    private static void oneToThreeTitles() {
        Edge.sentence("Then T: and any text, one to three.");
        Edge.refused("X:1\nK:C\n", 1, 4);
        Edge.refused("X:1\nM:C\nT:a\nK:C\n", 1, 4);
        Edge.refused("X:1\nL:1/8\nT:a\nK:C\n", 1, 4);
        Edge.refused("X:1\nQ:8\nT:a\nK:C\n", 1, 4);
        String titles = "";
        for (int many = 1; many <= 3; many++) {
            titles += "T:" + "abc".substring(0, many) + "\n";
            int told = many;
            Edge.asked("X:1\n" + titles + "K:C\n", 0, x -> {
                Check.due("T lines", x.head(1), told);
                Check.due("the last one's bytes", x.title(told - 1, -1), told);
                Check.due("one more", x.title(told, -1), AbcForms.BAD);
            });
        }
        Edge.refused("X:1\n" + titles + "T:d\nK:C\n", 1, 4 + titles.length());
        Edge.refused("X:1\nT:a\nM:C\nT:b\nK:C\n", 1, 12);
        Edge.refused("X:1\nT:a\nM:none\nT:b\nK:C\n", 1, 15);
        Edge.refused("X:1\nT:a\nL:1/1\nT:b\nK:C\n", 1, 14);
        Edge.refused("X:1\nT:a\nQ:1\nT:b\nK:C\n", 1, 12);
    }

    private static void anyTextOfATitle() {
        Edge.sentence("Then T: and any text");
        Edge.asked("X:1\nT:\nT:   \nT: K:C\nK:C\n", 0, x -> {
            Check.due("T lines", x.head(1), 3);
            Check.due("no text", x.title(0, -1), 0);
            Check.due("blanks", x.title(1, -1), 0);
            Check.due("a text", x.title(2, -1), 3);
        });
        String most = "a".repeat(2000 - "X:1\nT:\nK:C\n".length());
        Edge.asked("X:1\nT:" + most + "\nK:C\n", 0, x -> {
            Check.due("as long as can be", x.title(0, -1), most.length());
            Check.due("its last byte", x.title(0, most.length() - 1), 'a');
            Check.due("behind its last byte", x.title(0, most.length()), AbcForms.BAD);
        });
    }

    private static void eachAtMostOnceInAnyOrder() {
        Edge.sentence("Then, each at most once, in any order: M: meter, L: unit, Q: number 1 .. 999.");
        String[] lines = {"M:5/4\n", "L:1/2\n", "Q:77\n"};
        String[] orders = {"", "0", "1", "2", "01", "02", "10", "12", "20", "21", "012", "021", "102", "120", "201", "210"};
        for (String order : orders) {
            StringBuilder told = new StringBuilder("X:1\nT:a\n");
            for (int i = 0; i < order.length(); i++) {
                told.append(lines[order.charAt(i) - '0']);
            }
            Edge.asked(told + "K:C\n", 0, x -> {
                Check.due("M", x.head(2), order.indexOf('0') >= 0 ? 5 : 0);
                Check.due("L", x.head(4), order.indexOf('1') >= 0 ? 2 : 8);
                Check.due("Q", x.head(5), order.indexOf('2') >= 0 ? 77 : 0);
            });
            for (int i = 0; i < order.length(); i++) {
                Edge.refused(told + lines[order.charAt(i) - '0'] + "K:C\n", 1, told.length());
            }
        }
        Edge.refused("X:1\nT:a\nM:none\nM:none\nK:C\n", 1, 15);
    }

    private static void numberOfQ() {
        Edge.sentence("Q: number 1 .. 999.");
        Edge.refused("X:1\nT:a\nQ:0\nK:C\n", 1, 10);
        Edge.asked("X:1\nT:a\nQ:1\nK:C\n", 0, x -> Check.due("Q", x.head(5), 1));
        Edge.asked("X:1\nT:a\nQ:999\nK:C\n", 0, x -> Check.due("Q", x.head(5), 999));
        Edge.refused("X:1\nT:a\nQ:1000\nK:C\n", 1, 10);
        Edge.refused("X:1\nT:a\nQ:4294967297\nK:C\n", 1, 10);
        Edge.refused("X:1\nT:a\nQ:\nK:C\n", 1, 10);
        Edge.refused("X:1\nT:a\nQ: x\nK:C\n", 1, 11);
    }

    private static void thenKey() {
        Edge.sentence("Then K: key. Behind it lines of MUSIC");
        Edge.let("X:1\nT:a\nK:C", 0);
        Edge.refused("X:1\nT:a\n", 1, 8);
        Edge.refused("X:1\nT:a\nM:C\n", 1, 12);
        Edge.refused("X:1\nT:a\nC\nK:C\n", 1, 8);
        Edge.refused("X:1\nT:a\nV:1\nK:C\n", 1, 8);
        Edge.refused("X:1\nT:a\n[K:C]\n", 1, 8);
        Edge.refused("X:1\nT:a\n K:C\n", 1, 8);
        Edge.refused("X:1\nT:a\nK:\n", 1, 10);
        Edge.refused("X:1\nT:a\nK:", 1, 10);
    }

    private static void aHeadWithoutItsColon() {
        Edge.sentence("a line that cannot come there (a head without its : , too): at its first byte.");
        Edge.refused("X\n", 1, 0);
        Edge.refused("X1\n", 1, 0);
        Edge.refused("X :1\n", 1, 0);
        Edge.refused(":1\n", 1, 0);
        Edge.refused("X:1\nT a\nK:C\n", 1, 4);
        Edge.refused("X:1\nT:a\nM 4/4\nK:C\n", 1, 8);
        Edge.refused("X:1\nT:a\nL\nK:C\n", 1, 8);
        Edge.refused("X:1\nT:a\nQ=3\nK:C\n", 1, 8);
        Edge.refused("X:1\nT:a\nK%:C\n", 1, 8);
        Edge.refused("X:1\nT:a\nK C\n", 1, 8);
        Edge.refusedMusic("", "K C", 1, 0);
        Edge.refusedMusic("", "V", 1, 0);
    }

    private static void linesBehindKey() {
        Edge.sentence("V: (1 .. 3), M:, L:, K: as lines (a line that begins with a letter and : is such a one)");
        for (char letter = 'A'; letter <= 'z'; letter++) {
            if (!Character.isLetter(letter)) {
                continue;
            }
            if ("VMLK".indexOf(letter) < 0) {
                Edge.refusedMusic("", "C\n" + letter + ":|", 1, 2);
                Edge.refusedMusic("", letter + ":", 1, 0);
            } else {
                Edge.refusedMusic("", "C\n" + letter + ":|", 1, 4);
                Edge.refusedMusic("", letter + ":", 1, 2);
            }
        }
        Edge.letMusic("", "V:1\nM:C\nL:1/8\nK:C", 3);
        Edge.letMusic("", "V:3\nM:none\nL:1/8\nK:none\nC", 4);
        Edge.letMusic("", " c:|\nC :|", 4);
        Edge.letMusic("", "^c:|\n.c:|", 4);
        Edge.refusedMusic("", " V:1", 1, 1);
    }

    private static void voicesOfLines() {
        Edge.sentence("V: (1 .. 3)");
        Edge.refusedMusic("", "V:0\nC", 1, 2);
        for (int voice = 1; voice <= 3; voice++) {
            int told = voice;
            Edge.askedMusic("", "V:" + voice + "\nC", 1, x -> {
                Check.due("VOICE", x.thing(0, 1), told);
                Check.due("the greatest VOICE", x.head(8), told);
            });
            Edge.askedMusic("", "[V:" + voice + "]C", 1, x -> Check.due("VOICE", x.thing(0, 1), told));
        }
        Edge.refusedMusic("", "V:4\nC", 1, 2);
        Edge.refusedMusic("", "[V:0]C", 1, 3);
        Edge.refusedMusic("", "[V:4]C", 1, 3);
        Edge.refusedMusic("", "V:11", 1, 2);
        Edge.refusedMusic("", "V:4294967297", 1, 2);
        Edge.refusedMusic("", "V:-1", 1, 2);
    }

    private static void blanksBehindTheColon() {
        Edge.sentence("Behind the : blanks may stand.");
        Edge.asked("X:   7\nT:   a b\nM:   5/4\nL:   1/2\nQ:   3\nK:   G\nV:   2\nM:   C\nL:   1/4\nK:   D", 3, x -> {
            int[] wanted = {7, 1, 5, 4, 2, 3, 1, 3, 2};
            for (int what = 0; what < wanted.length; what++) {
                Check.due("head(" + what + ")", x.head(what), wanted[what]);
            }
            Check.due("T", x.title(0, -1), 3);
            Check.cells(x, 3, 0, 4, 4, 2);
        });
        Edge.letMusic("", "[V:   2][M:   C|][L:   1/4][K:   none]", 3);
        Edge.refused("X: 1 2\nT:a\nK:C\n", 1, 4);
        Edge.refused("X:1\nT:a\nM:4 /4\nK:C\n", 1, 11);
        Edge.refused("X:1\nT:a\nM:4/ 4\nK:C\n", 1, 12);
        Edge.refused("X:1\nT:a\nL:1/ 4\nK:C\n", 1, 12);
        Edge.refused("X:1\nT:a\nK:C m\n", 1, 11);
        Edge.refusedMusic("", "V :1", 1, 0);
        Edge.refusedMusic("", "[V :1]", 1, 1);
        Edge.refusedMusic("", "[ V:1]", 1, 1);
    }

    private static void numberOfAMeter() {
        Edge.sentence("(number 1 .. 32)");
        for (int number = 0; number <= 40; number++) {
            int told = number;
            if (number >= 1 && number <= 32) {
                Edge.asked("X:1\nT:a\nM:" + number + "/8\nK:C\n", 0, x -> {
                    Check.due("meter", x.head(2), told);
                    Check.due("its lower one", x.head(3), 8);
                });
                Edge.cells("", "[M:" + number + "/16]", 3, number);
            } else {
                Edge.refused("X:1\nT:a\nM:" + number + "/8\nK:C\n", 1, 10);
                Edge.refusedMusic("", "[M:" + number + "/16]", 1, 3);
                Edge.refusedMusic("", "C\nM:" + number + "/16", 1, 4);
            }
        }
        Edge.refused("X:1\nT:a\nM:4294967297/8\nK:C\n", 1, 10);
        Edge.refused("X:1\nT:a\nM:/8\nK:C\n", 1, 10);
    }

    private static void lowerOneOfAMeter() {
        Edge.sentence("or number / 1, 2, 4, 8, 16, 32");
        for (int lower = 0; lower <= 130; lower++) {
            int told = lower;
            if (isOneOf(lower, 32)) {
                Edge.asked("X:1\nT:a\nM:5/" + lower + "\nK:C\n", 0, x -> Check.due("lower one", x.head(3), told));
                Edge.cells("", "[M:5/" + lower + "]", 4, lower);
            } else {
                Edge.refused("X:1\nT:a\nM:5/" + lower + "\nK:C\n", 1, 12);
                Edge.refusedMusic("", "[M:5/" + lower + "]", 1, 5);
            }
        }
        Edge.refused("X:1\nT:a\nM:5/\nK:C\n", 1, 12);
        Edge.refused("X:1\nT:a\nM:5\nK:C\n", 1, 11);
        Edge.refused("X:1\nT:a\nM:5/4294967297\nK:C\n", 1, 12);
    }

    private static void wordsOfAMeter() {
        Edge.sentence("meter: C (4/4), C| (2/2), none");
        String[] words = {"C", "C|", "none"};
        int[] numbers = {4, 2, 0};
        long[] bars = {1290240, 1290240, 0};
        for (int i = 0; i < words.length; i++) {
            int number = numbers[i];
            long bar = bars[i];
            Edge.asked("X:1\nT:a\nM:" + words[i] + "\nK:C\n", 0, x -> {
                Check.due("meter", x.head(2), number);
                Check.due("its lower one", x.head(3), number);
            });
            Edge.cells("M:3/4\n", "[M:" + words[i] + "]", 3, number);
            Edge.cells("M:3/4\n", "M:" + words[i], 4, number);
            if (bar > 0) {
                Edge.times("", "[M:" + words[i] + "]Z", 0, bar);
            }
        }
        Edge.refused("X:1\nT:a\nM:c\nK:C\n", 1, 10);
        Edge.refused("X:1\nT:a\nM:|\nK:C\n", 1, 10);
    }

    private static void lowerOneOfAUnit() {
        Edge.sentence("unit: 1/ and 1, 2, 4 .. 64.");
        for (int lower = 0; lower <= 130; lower++) {
            int told = lower;
            if (isOneOf(lower, 64)) {
                Edge.asked("X:1\nT:a\nL:1/" + lower + "\nK:C\nC", 1, x -> {
                    Check.due("unit", x.head(4), told);
                    Check.due("a time", x.time(0), 1290240 / told);
                });
                Edge.cells("", "[L:1/" + lower + "]", 3, lower);
            } else {
                Edge.refused("X:1\nT:a\nL:1/" + lower + "\nK:C\n", 1, 12);
                Edge.refusedMusic("", "[L:1/" + lower + "]", 1, 5);
            }
        }
        Edge.refused("X:1\nT:a\nL:1/4294967297\nK:C\n", 1, 12);
        Edge.refused("X:1\nT:a\nL:2/8\nK:C\n", 1, 10);
        Edge.refused("X:1\nT:a\nL:0/8\nK:C\n", 1, 10);
        Edge.refused("X:1\nT:a\nL:1\nK:C\n", 1, 11);
        Edge.refused("X:1\nT:a\nL:1/\nK:C\n", 1, 12);
        Edge.refused("X:1\nT:a\nL:\nK:C\n", 1, 10);
        Edge.refused("X:1\nT:a\nL:/8\nK:C\n", 1, 10);
    }

    private static void withoutM() {
        Edge.sentence("Without M: none;");
        Edge.asked("X:1\nT:a\nK:C\nC", 1, x -> {
            Check.due("meter", x.head(2), 0);
            Check.due("its lower one", x.head(3), 0);
            Check.due("always FULL", x.full(1, 0), 1);
        });
        Edge.refused("X:1\nT:a\nK:C\nZ", 1, 12);
    }

    private static void withoutL() {
        Edge.sentence("without L:, when MUSIC begins: 1/16 if the meter is there and less than 3/4, else 1/8.");
        for (int number = 1; number <= 32; number++) {
            for (int lower = 1; lower <= 32; lower *= 2) {
                int unit = 4 * number < 3 * lower ? 16 : 8;
                Edge.asked(0, "X:1\nT:a\nM:" + number + "/" + lower + "\nK:C\nC", 1, x -> {
                    Check.due("unit", x.head(4), unit);
                    Check.due("a time", x.time(0), 1290240 / unit);
                });
            }
        }
        String[] meters = {"", "M:none\n", "M:C\n", "M:C|\n", "M:3/4\n", "M:24/32\n", "M:2/4\n", "M:23/32\n"};
        int[] units = {8, 8, 8, 8, 8, 8, 16, 16};
        for (int i = 0; i < meters.length; i++) {
            int unit = units[i];
            Edge.asked("X:1\nT:a\n" + meters[i] + "K:C\n", 0, x -> Check.due("unit", x.head(4), unit));
            Edge.asked("X:1\nT:a\n" + meters[i] + "L:1/2\nK:C\n", 0, x -> Check.due("unit", x.head(4), 2));
            Edge.asked("X:1\nT:a\nL:1/2\n" + meters[i] + "K:C\n", 0, x -> Check.due("unit", x.head(4), 2));
        }
    }

    private static void aUnitToldLater() {
        Edge.sentence("(A unit told later holds from there on;");
        Edge.askedMusic("L:1/4\n", "C\nL:1/1\nC [L:1/64] C [V:2] C [L:1/2] C [V:1] C", 9, x -> {
            Check.due("the heads' unit", x.head(4), 4);
            Check.times(x, 0, 322560, 0, 1290240, 0, 20160, 322560, 0, 645120, 20160);
        });
    }

    private static void aMeterChangesNoUnit() {
        Edge.sentence("a meter changes no unit.)");
        Edge.askedMusic("", "M:2/4\nC [M:4/4] C", 4, x -> {
            Check.due("the heads' unit", x.head(4), 8);
            Check.due("the heads' meter", x.head(2), 0);
            Check.times(x, 0, 0, 161280, 0, 161280);
        });
        Edge.times("M:2/4\n", "M:4/4\nC [M:none] C [V:2] C", 0, 80640, 0, 80640, 80640);
    }

    private static void keysOfAllLettersAndModes() {
        Edge.sentence("SIGNS: F - 1, C 0, G 1, D 2, A 3, E 4, B 5; # 7 more, b 7 less; m and its like 3 less, dor 2, phr 4, mix 1, loc 5 less,"
                + " lyd 1 more; more than 7 (either way): FAULT 3 at the key's first byte.");
        String[] marks = {"", "#", "b"};
        int[] markSigns = {0, 7, -7};
        for (int letter = 0; letter < 7; letter++) {
            for (int mark = 0; mark < 3; mark++) {
                for (int mode = 0; mode < MODES.length; mode++) {
                    String key = LETTERS.charAt(letter) + marks[mark] + MODES[mode];
                    oneKey(key, letter - 1 + markSigns[mark] + MODE_SIGNS[mode]);
                }
            }
        }
    }

    private static void oneKey(String key, int signs) {
        if (Math.abs(signs) > 7) {
            Edge.refused("X:1\nT:a\nK: " + key + "\n", 3, 11);
            Edge.refused("X:1\nT:a\nK:" + key + "?\n", 3, 10);
            Edge.refusedMusic("", "C\nK:" + key, 3, 4);
            Edge.refusedMusic("", "[K:" + key + "]", 3, 3);
        } else {
            Edge.asked("X:1\nT:a\nK:" + key + "\n[V:2]\nK:" + key + "\n[K:" + key + "]", 2, x -> {
                Check.due("SIGNS of the heads", x.head(6), signs);
                Check.cells(x, 3, 0, signs, signs);
            });
        }
    }

    private static void keyNone() {
        Edge.sentence("key: none, or A .. G");
        Edge.asked("X:1\nT:a\nK:none\n[K:G]FB[K:none]FB[K:F]FB\nK:none\nFB", 12, x -> {
            Check.due("SIGNS of the heads", x.head(6), 0);
            Check.cells(x, 3, 0, 1, 66, 71, 0, 65, 71, -1, 65, 70, 0, 65, 71);
        });
    }

    private static void lettersOfAKey() {
        Edge.sentence("or A .. G, # or b or nothing, and a mode: nothing, maj, ion; m, min, aeo; dor; phr; lyd; mix; loc.");
        for (char letter = 33; letter <= 126; letter++) {
            if (letter != '%' && letter != '\\' && (letter < 'A' || letter > 'G')) {
                Edge.refused("X:1\nT:a\nK:" + letter + "\n", 1, 10);
                Edge.refusedMusic("", "[K:" + letter + "]", 1, 3);
            }
        }
        Edge.let("X:1\nT:a\nK:A\n", 0);
        Edge.let("X:1\nT:a\nK:G\n", 0);
        Edge.refused("X:1\nT:a\nK:#\n", 1, 10);
        Edge.refused("X:1\nT:a\nK:m\n", 1, 10);
        Edge.refused("X:1\nT:a\nK:=C\n", 1, 10);
    }

    private static void orderOfSharpsAndFlats() {
        Edge.sentence("So many sharps (F C G D A E B in this order) or flats (the other way round).");
        String[] sharpKeys = {"C", "G", "D", "A", "E", "B", "F#", "C#"};
        String[] flatKeys = {"C", "F", "Bb", "Eb", "Ab", "Db", "Gb", "Cb"};
        for (int many = 0; many <= 7; many++) {
            int[] sharps = new int[7];
            int[] flats = new int[7];
            for (int i = 0; i < many; i++) {
                sharps[i] = 1;
                flats[6 - i] = -1;
            }
            Edge.asked("X:1\nT:a\nK:" + sharpKeys[many] + "\n" + LETTERS, 7, x -> Check.cells(x, 6, 0, sharps));
            Edge.asked("X:1\nT:a\nK:" + flatKeys[many] + "\n" + LETTERS, 7, x -> Check.cells(x, 6, 0, flats));
        }
    }
}
