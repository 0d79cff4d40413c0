/** The boundary cases of Terms, part 2: what may stand in MUSIC, but for times and signs. */
public final class EdgesOfMusicTest {
    private static final long WHOLE = 1290240;

    public static void main(String[] args) {
        everyByteThatBeginsAThing();
        blanksBetweenThings();
        signsOfANote();
        lettersOfANote();
        octaveMarks();
        ties();
        notesOfAChord();
        chordsFirstAndLastByte();
        numberOfAZ();
        aZWithoutMeter();
        aZIsNoTimed();
        fourSlursMayBeOpen();
        aSlurEndWithoutOne();
        aSlurEndAheadOfAllTimed();
        anOpenSlur();
        notesOfGraces();
        gracesLengths();
        ornaments();
        lettersOfAName();
        bytesOfAWord();
        theyBelongToTheNextTimed();
        bars();
        endings();
        theLongestThatIsThere();
        changesInBrackets();
        justTheseFour();
        Check.finish();
    }

    private static void everyByteThatBeginsAThing() {
        Edge.sentence("1: a byte that cannot stand there, at it");
        for (char b = 32; b <= 126; b++) {
            String music = String.valueOf(b);
            if ("ABCDEFGabcdefgzx|".indexOf(b) >= 0) {
                Edge.letMusic("", music, 1);
            } else if (".~HTMPuv %\\".indexOf(b) >= 0) {
                Edge.letMusic("", music, 0);
            } else if ("^_=[{\"!".indexOf(b) >= 0) {
                Edge.refusedMusic("", music, 1, 1);
            } else if (")<>".indexOf(b) >= 0) {
                Edge.refusedMusic("", music, 5, 0);
            } else if (b == '(') {
                Edge.refusedMusic("", music, 6, 1);
            } else {
                Edge.refusedMusic("", music, 1, 0);
                Edge.refusedMusic("", "| " + music, 1, 2);
            }
        }
    }

    private static void blanksBetweenThings() {
        Edge.sentence("2 MUSIC, in lines one behind the other; blanks between things count for nothing.");
        Edge.letMusic("", "   C   D\n   |   \nE", 4);
        Edge.letMusic("", "CD|E", 4);
        Edge.refusedMusic("", "^ C", 1, 1);
        Edge.refusedMusic("", "C '", 1, 2);
        Edge.refusedMusic("", "C 2", 1, 2);
        Edge.refusedMusic("", "C -", 1, 2);
        Edge.refusedMusic("", "[ C]", 1, 1);
        Edge.refusedMusic("", "{ C}", 1, 1);
        Edge.refusedMusic("", "| 1", 1, 2);
        Edge.refusedMusic("", ": |", 1, 0);
        Edge.refusedMusic("M:C\n", "Z 2", 1, 2);
        Edge.refusedMusic("", "! a!", 1, 1);
    }

    private static void signsOfANote() {
        Edge.sentence("note = ['^^' | '^' | '=' | '_' | '__'] letter");
        String[] signs = {"^^", "^", "=", "_", "__"};
        int[] values = {2, 1, 0, -1, -2};
        for (int i = 0; i < signs.length; i++) {
            Edge.cells("", signs[i] + "C[" + signs[i] + "D]{" + signs[i] + "E}", 6, values[i], values[i], values[i]);
            Edge.cells("", signs[i] + "C[" + signs[i] + "D]{" + signs[i] + "E}", 3, 60 + values[i], 62 + values[i],
                    64 + values[i]);
            int size = signs[i].length();
            String[] others = {"=", "z", "x", "Z", "H", "h", " C", "|", "[", "2", "'", "\n", ""};
            for (String other : others) {
                Edge.refusedMusic("", signs[i] + other, 1, size);
                Edge.refusedMusic("", "[" + signs[i] + other, 1, size + 1);
            }
        }
        Edge.refusedMusic("", "^^^C", 1, 2);
        Edge.refusedMusic("", "___C", 1, 2);
        Edge.refusedMusic("", "^_C", 1, 1);
        Edge.refusedMusic("", "_^C", 1, 1);
        Edge.refusedMusic("", "=^C", 1, 1);
    }

    private static void lettersOfANote() {
        Edge.sentence("letter (A .. G; a .. g one octave above)");
        Edge.cells("", "CDEFGABcdefgab", 3, 60, 62, 64, 65, 67, 69, 71, 72, 74, 76, 77, 79, 81, 83);
        Edge.cells("", "CDEFGABcdefgab", 4, 0, 1, 2, 3, 4, 5, 6, 0, 1, 2, 3, 4, 5, 6);
        Edge.cells("", "CDEFGABcdefgab", 5, 4, 4, 4, 4, 4, 4, 4, 5, 5, 5, 5, 5, 5, 5);
        for (char b = 33; b <= 126; b++) {
            if (b >= 'A' && b <= 'G' || b >= 'a' && b <= 'g') {
                Edge.letMusic("", "[" + b + "]{" + b + "}", 2);
            } else if (b != '^' && b != '_' && b != '=') {
                Edge.refusedMusic("", "{" + b + "C}", 1, 1);
            }
        }
    }

    private static void octaveMarks() {
        Edge.sentence("{' (one above) | , (one below)}");
        Edge.cells("", "C'c'C,c,C','C,', ", 5, 5, 6, 3, 4, 5, 3);
        Edge.cells("", "C'c'C,c,C','C,', ", 3, 72, 84, 48, 60, 72, 48);
        Edge.cells("", "C" + "'".repeat(900) + ",".repeat(901), 5, 3);
        Edge.refusedMusic("", "C" + "'".repeat(1900), 4, 0);
        Edge.refusedMusic("", "C2'", 1, 2);
        Edge.refusedMusic("", "'C", 1, 0);
        Edge.refusedMusic("", ",C", 1, 0);
    }

    private static void ties() {
        Edge.sentence("timed = note ['-'] | '[' note {note} ']' [length] ['-'] | ('z' | 'x') [length]");
        Edge.cells("", "C-C C2-[CE]-[CE]2-C/-C", 8, 1, 0, 1, 1, 1, 1, 1, 1, 0);
        Edge.refusedMusic("", "C--", 1, 2);
        Edge.refusedMusic("", "[CE]--", 1, 5);
        Edge.refusedMusic("", "[C-E]", 1, 2);
        Edge.refusedMusic("", "{C-}", 1, 2);
        Edge.refusedMusic("", "z-", 1, 1);
        Edge.refusedMusic("", "x2-", 1, 2);
        Edge.refusedMusic("", "-C", 1, 0);
        Edge.refusedMusic("M:C\n", "Z-", 1, 1);
    }

    private static void notesOfAChord() {
        Edge.sentence("the 13th note in [ ], the 9th in { }, as soon as its first byte is there.");
        String letters = "CDEFGABcdefg";
        for (int many = 1; many <= 12; many++) {
            int[] notes = new int[many];
            int[] places = new int[many];
            for (int i = 0; i < many; i++) {
                notes[i] = many;
                places[i] = i;
            }
            Edge.cells("", "[" + letters.substring(0, many) + "]", 9, notes);
            Edge.cells("", "[" + letters.substring(0, many) + "]", 10, places);
        }
        String[] thirteenth = {"a]", "^]", "=?", "_", "B,,,,,,,,", "a0"};
        for (String one : thirteenth) {
            Edge.refusedMusic("", "[" + letters + one, 2, 13);
        }
        Edge.refusedMusic("", "[" + letters + "z]", 1, 13);
        Edge.refusedMusic("", "[" + letters + "-]", 1, 13);
        Edge.refusedMusic("", "[" + letters, 1, 13);
        Edge.refusedMusic("", "[C2D2E2F2G2A2B2c2d2e2f2g2a2]", 2, 25);
        Edge.letMusic("", "[" + letters + "]3/2-[" + letters + "]", 24);
    }

    private static void chordsFirstAndLastByte() {
        Edge.sentence("'[' note {note} ']' [length] ['-']");
        Edge.refusedMusic("", "[]", 1, 1);
        Edge.refusedMusic("", "[", 1, 1);
        Edge.refusedMusic("", "[C", 1, 2);
        Edge.refusedMusic("", "[C2", 1, 3);
        Edge.refusedMusic("", "[C\nE]", 1, 2);
        Edge.refusedMusic("", "[C % E]", 1, 2);
        Edge.refusedMusic("", "[C\\\nE]", 1, 2);
        Edge.refusedMusic("", "[Cz]", 1, 2);
        Edge.refusedMusic("", "[z]", 1, 1);
        Edge.refusedMusic("", "[C[E]]", 1, 2);
        Edge.refusedMusic("", "[C|]", 1, 2);
        Edge.refusedMusic("", "]", 1, 0);
        Edge.refusedMusic("", "[C]]", 1, 3);
        Edge.letMusic("", "[C]", 1);
    }

    private static void numberOfAZ() {
        Edge.sentence("Z [number 1 .. 16]: so many bars: a rest of so many meters");
        for (int many = 1; many <= 16; many++) {
            int told = many;
            Edge.askedMusic("M:3/4\n", "Z" + many + "|", 2, x -> {
                Check.due("BARS", x.thing(0, 3), told);
                Check.due("time(0)", x.time(0), told * (WHOLE * 3 / 4));
                Check.due("measures(1)", x.measures(1), told);
            });
        }
        Edge.askedMusic("M:3/4\n", "Z|", 2, x -> {
            Check.due("BARS", x.thing(0, 3), 1);
            Check.due("time(0)", x.time(0), WHOLE * 3 / 4);
        });
        Edge.refusedMusic("M:3/4\n", "Z0", 1, 1);
        Edge.refusedMusic("M:3/4\n", "Z17", 1, 1);
        Edge.refusedMusic("M:3/4\n", "Z160", 1, 1);
        Edge.refusedMusic("M:3/4\n", "Z4294967297", 1, 1);
        Edge.refusedMusic("M:3/4\n", "Z2/", 1, 2);
    }

    private static void aZWithoutMeter() {
        Edge.sentence("(without meter: FAULT 1 at Z, ahead of its THING)");
        Edge.refusedMusic("", "C Z", 1, 2);
        Edge.refusedMusic("M:none\n", "C Z17", 1, 2);
        Edge.refusedMusic("M:C\n", "Z[M:none]Z", 1, 9);
        Edge.letMusic("", "[M:C]Z", 2);
        Edge.refusedMusic("", "[V:2][M:C]Z[V:1]Z", 1, 16);
        Edge.letMusic("M:C\n", "[V:2][M:none]C[V:1]Z", 3);
        Edge.refusedMusic("", "| ".repeat(400) + "Z", 1, 800);
        Edge.refusedMusic("M:C\n", "| ".repeat(400) + "Z", 2, 800);
    }

    private static void aZIsNoTimed() {
        Edge.sentence("so many bars: a rest of so many meters (without meter: FAULT 1 at Z, ahead of its THING); no timed.");
        Edge.refusedMusic("M:C\n", "Z>C", 5, 1);
        Edge.refusedMusic("M:C\n", "C>Z", 5, 2);
        Edge.refusedMusic("M:C\n", "(3CDZ", 6, 5);
        Edge.askedMusic("M:C\n", ".\"x\"(Z)C", 2, x -> {
            for (int what = 11; what <= 14; what++) {
                Check.due("of the Z, " + what, x.thing(0, what), 0);
            }
            Check.cells(x, 11, 1, 1);
            Check.cells(x, 12, 1, 1);
            Check.cells(x, 13, 1, 1);
            Check.cells(x, 14, 1, 0);
        });
        Edge.askedMusic("M:C\n", "(CZ)", 2, x -> Check.cells(x, 14, 0, 1, 0));
    }

    private static void fourSlursMayBeOpen() {
        Edge.sentence("Other ( and ) begin and end slurs (four may be open, a fifth ( is FAULT 5 at it");
        Edge.cells("", "(C)((C))(((C)))((((C))))", 13, 1, 2, 3, 4);
        Edge.cells("", "(C)((C))(((C)))((((C))))", 14, 1, 2, 3, 4);
        Edge.refusedMusic("", "(((((C)))))", 5, 4);
        Edge.refusedMusic("", "(C(D(E(F(G)))))", 5, 8);
        Edge.letMusic("", "(C(D(E(F)(G))))", 5);
        Edge.letMusic("", "((((C(2DE))))", 3);
        Edge.refusedMusic("", "((((C(1DE))))", 1, 6);
        Edge.refusedMusic("", "((((C(0DE))))", 1, 6);
        Edge.refusedMusic("", "[V:2]((((C[V:1](D)))))", 5, 15);
    }

    private static void aSlurEndWithoutOne() {
        Edge.sentence("a ) without one: FAULT 5 at it");
        Edge.refusedMusic("", ")", 5, 0);
        Edge.refusedMusic("", "C)", 5, 1);
        Edge.refusedMusic("", "(C))", 5, 3);
        Edge.refusedMusic("", "((((C)))))", 5, 9);
        Edge.refusedMusic("", "(3CDE)", 5, 5);
        Edge.letMusic("", "(C[V:2])", 1);
        Edge.letMusic("", "(\nC\n)", 1);
    }

    private static void aSlurEndAheadOfAllTimed() {
        Edge.sentence("a ) ahead of all timed is behind none)");
        Edge.cells("", "()C", 14, 0);
        Edge.cells("", "()C", 13, 1);
        Edge.cells("", "|(())C", 14, 0, 0);
        Edge.cells("M:C\n", "{c}Z(C)", 14, 0, 0, 1);
        Edge.cells("M:C\n", "{c}Z()C", 14, 0, 0, 0);
    }

    private static void anOpenSlur() {
        Edge.sentence("6 at the text's end: a TUPLET that is not full, a slur that is open.");
        Edge.refusedMusic("", "(", 6, 1);
        Edge.refusedMusic("", "(C", 6, 2);
        Edge.refusedMusic("", "((((C)))", 6, 8);
        Edge.refusedMusic("", "(C\n\n \n", 6, 6);
        Edge.letMusic("", "((((C))))", 1);
        Edge.refusedMusic("", "(C?", 1, 2);
    }

    private static void notesOfGraces() {
        Edge.sentence("the 13th note in [ ], the 9th in { }, as soon as its first byte is there.");
        String letters = "CDEFGABc";
        for (int many = 1; many <= 8; many++) {
            int[] sorts = new int[many];
            int[] notes = new int[many];
            for (int i = 0; i < many; i++) {
                sorts[i] = 5;
                notes[i] = 1;
            }
            Edge.cells("", "{" + letters.substring(0, many) + "}", 0, sorts);
            Edge.cells("", "{" + letters.substring(0, many) + "}", 9, notes);
            Edge.cells("", "{" + letters.substring(0, many) + "}", 10, new int[many]);
        }
        String[] ninth = {"d}", "^}", "=?", "_", "B,,,,,,,,", "d0"};
        for (String one : ninth) {
            Edge.refusedMusic("", "{" + letters + one, 2, 9);
        }
        Edge.refusedMusic("", "{" + letters + "z}", 1, 9);
        Edge.refusedMusic("", "{" + letters, 1, 9);
        Edge.refusedMusic("", "{}", 1, 1);
        Edge.refusedMusic("", "{", 1, 1);
        Edge.refusedMusic("", "{C", 1, 2);
        Edge.refusedMusic("", "{C\nD}", 1, 2);
        Edge.refusedMusic("", "{[CE]}", 1, 1);
        Edge.refusedMusic("", "{C]", 1, 2);
        Edge.refusedMusic("", "}", 1, 0);
    }

    private static void gracesLengths() {
        Edge.sentence("{ note {note} }: graces, lengths of theirs count for nothing (but are read).");
        Edge.askedMusic("L:1/1\n", "{C64D/64E//F3/}C", 5, x -> {
            Check.times(x, 0, 0, 0, 0, 0, WHOLE);
            Check.starts(x, 0, 0, 0, 0, 0, 0);
            Check.due("length(1, 0)", x.length(1, 0), WHOLE);
        });
        Edge.refusedMusic("", "{C0}", 1, 2);
        Edge.refusedMusic("", "{C65}", 1, 2);
        Edge.refusedMusic("", "{C/3}", 1, 3);
        Edge.askedMusic("", "{C}", 1, x -> Check.due("a grace begins no MEASURE", x.measures(1), 0));
    }

    private static void ornaments() {
        Edge.sentence("Ornaments: . ~ H T M P u v");
        String all = ".~HTMPuv";
        for (int i = 0; i < 8; i++) {
            char one = all.charAt(i);
            Edge.cells("", " " + one + "C" + one + one + "D E", 11, 1 << i, 1 << i, 0);
        }
        Edge.cells("", all + "C" + all + all + "z", 11, 255, 255);
        Edge.cells("", "C D", 11, 0, 0);
    }

    private static void lettersOfAName() {
        Edge.sentence("! , letters (1 .. 12), !");
        for (int many = 1; many <= 12; many++) {
            Edge.cells("", "!" + "aBcDeFgHiJkZ".substring(0, many) + "!C", 12, 1);
        }
        Edge.refusedMusic("", "!!", 1, 1);
        Edge.refusedMusic("", "!", 1, 1);
        Edge.refusedMusic("", "!abcdefghijklm!", 1, 13);
        Edge.refusedMusic("", "!abcdefghijkl", 1, 13);
        Edge.refusedMusic("", "!a", 1, 2);
        Edge.refusedMusic("", "!a \n!", 1, 2);
        for (char b = 32; b <= 126; b++) {
            if (Character.isLetter(b)) {
                Edge.letMusic("", "!" + b + "!", 0);
            } else if (b != '!') {
                Edge.refusedMusic("", "!a" + b + "b!", 1, 2);
            }
        }
    }

    private static void bytesOfAWord() {
        Edge.sentence("\" any (0 .. 20) \": a word above.");
        for (int many = 0; many <= 20; many++) {
            Edge.cells("", "\"" + "x".repeat(many) + "\"C", 12, 1);
        }
        Edge.refusedMusic("", "\"" + "x".repeat(21) + "\"C", 1, 21);
        Edge.refusedMusic("", "\"" + "x".repeat(20), 1, 21);
        Edge.refusedMusic("", "\"" + " ".repeat(21) + "\"C", 1, 21);
        Edge.refusedMusic("", "\"", 1, 1);
        Edge.refusedMusic("", "\"a", 1, 2);
        Edge.refusedMusic("", "\"a\nb\"", 1, 2);
        Edge.refusedMusic("", "\"a % \"", 1, 2);
        Edge.refusedMusic("", "\"a \\\n\"", 1, 3);
        for (char b = 32; b <= 126; b++) {
            if (b != '%' && b != '"') {
                Edge.cells("", "\"" + b + "\"C", 12, 1);
            }
        }
        Edge.cells("", "\"\"\"\"C\"a\\b\"D", 12, 2, 1);
    }

    private static void theyBelongToTheNextTimed() {
        Edge.sentence("They belong to the next timed of the text.");
        Edge.cells("M:C\n", ".\"a\"{c}|[K:C]Z!b!\n[V:2]\n C D", 11, 0, 0, 0, 0, 1, 0);
        Edge.cells("M:C\n", ".\"a\"{c}|[K:C]Z!b!\n[V:2]\n C D", 12, 0, 0, 0, 0, 2, 0);
        Edge.cells("", "~\"a\"[CE]D", 11, 2, 0, 0);
        Edge.cells("", "~\"a\"[CE]D", 12, 1, 0, 0);
        Edge.cells("", "vz ux", 11, 128, 64);
        Edge.letMusic("", "C.~\"a\"!b!", 1);
    }

    private static void bars() {
        Edge.sentence("Bars: | || |] [| |: :| ::");
        String[] bars = {"|", "||", "|]", "[|", "|:", ":|", "::"};
        for (int i = 0; i < bars.length; i++) {
            Edge.cells("", " C " + bars[i] + " D", 3, 60, i, 62);
            Edge.cells("", " C " + bars[i] + " D", 0, 0, 4, 0);
        }
        Edge.refusedMusic("", "C :", 1, 2);
        Edge.refusedMusic("", "|::", 1, 2);
        Edge.refusedMusic("", ":::", 1, 2);
        Edge.refusedMusic("", ":]", 1, 0);
        Edge.refusedMusic("", "|[", 1, 2);
    }

    private static void endings() {
        Edge.sentence("behind | :| or [ , a digit 1 .. 4 (an ending)");
        String[] may = {"|", ":|", "["};
        int[] sorts = {0, 5, 7};
        for (int i = 0; i < may.length; i++) {
            for (int ending = 1; ending <= 4; ending++) {
                Edge.cells("", may[i] + ending, 3, sorts[i]);
                Edge.cells("", may[i] + ending, 15, ending);
            }
            Edge.refusedMusic("", may[i] + "0", 1, may[i].length());
            Edge.refusedMusic("", may[i] + "5", 1, may[i].length());
            Edge.refusedMusic("", may[i] + "12", 1, may[i].length() + 1);
        }
        String[] mayNot = {"||", "|]", "[|", "|:", "::"};
        for (String bar : mayNot) {
            Edge.refusedMusic("", bar + "1", 1, 2);
            Edge.cells("", bar, 15, 0);
        }
        Edge.cells("", "| :|C", 15, 0, 0, 0);
    }

    private static void theLongestThatIsThere() {
        Edge.sentence("the longest that is there.");
        Edge.cells("", "|||", 3, 1, 0);
        Edge.cells("", "||||", 3, 1, 1);
        Edge.cells("", "||:|", 3, 1, 5);
        Edge.cells("", "|:|", 3, 4, 0);
        Edge.cells("", "|::|", 3, 4, 5);
        Edge.cells("", "::|", 3, 6, 0);
        Edge.cells("", ":||", 3, 5, 0);
        Edge.cells("", "|[|", 3, 0, 3);
        Edge.cells("", "[||", 3, 3, 0);
        Edge.refusedMusic("", "[|]", 1, 2);
        Edge.cells("", "|1|2", 15, 1, 2);
        Edge.cells("", ":|1|:", 3, 5, 4);
    }

    private static void changesInBrackets() {
        Edge.sentence("as lines (blanks ahead of the ] , too); they, and such lines, are changes.");
        Edge.askedMusic("", "[V:2   ][M:5/4   ][L: 1/16 ][K:  Bb  ]C[V:1][M:none ]", 5, x -> {
            Check.cells(x, 0, 0, 7, 8, 6, 0, 7);
            Check.cells(x, 1, 0, 2, 2, 2, 2, 1);
            Check.cells(x, 3, 0, 5, 16, -2, 60, 0);
            Check.cells(x, 4, 0, 4, 0, 0, 0, 0);
        });
        String[] changes = {"[V:2", "[M:5/4", "[L:1/16", "[K:Bb", "[K:none", "[M:C|"};
        for (String change : changes) {
            int things = change.startsWith("[V") ? 1 : 2;
            Edge.letMusic("", change + "]C", things);
            Edge.letMusic("", change + "  ]C", things);
            Edge.letMusic("", change.substring(1) + "\nC", things);
            Edge.refusedMusic("", change, 1, change.length());
            Edge.refusedMusic("", change + "  ", 1, change.length());
            Edge.refusedMusic("", change + "%]", 1, change.length());
            Edge.refusedMusic("", change + "\n]", 1, change.length());
            Edge.refusedMusic("", change + " \\\n]", 1, change.length() + 1);
            Edge.refusedMusic("", change + "  C]", 1, change.length() + 2);
            Edge.refusedMusic("", change.substring(1) + "]", 1, change.length() - 1);
        }
        String[] empty = {"[V:", "[M:", "[L:", "[K:"};
        for (String change : empty) {
            Edge.refusedMusic("", change + "]", 1, 3);
            Edge.refusedMusic("", change + "  ]", 1, 5);
            Edge.refusedMusic("", change, 1, 3);
        }
    }

    private static void justTheseFour() {
        Edge.sentence("[V: .. ] [M: .. ] [L: .. ] [K: .. ], just these four");
        for (char letter = 'A'; letter <= 'z'; letter++) {
            if (!Character.isLetter(letter) || "VMLK".indexOf(letter) >= 0) {
                continue;
            }
            boolean note = letter >= 'A' && letter <= 'G' || letter >= 'a' && letter <= 'g';
            Edge.refusedMusic("", "[" + letter + ":C]", 1, note ? 2 : 1);
        }
        Edge.refusedMusic("", "[K]", 1, 1);
        Edge.refusedMusic("", "[V2]", 1, 1);
        Edge.refusedMusic("", "[L :1/8]", 1, 1);
        Edge.refusedMusic("", "[K:C][X:1]", 1, 6);
    }
}
