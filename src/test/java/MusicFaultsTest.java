/** Promises 4 and 5: the FAULTS that MUSIC can have, each with its place. */
public final class MusicFaultsTest {
    public static void main(String[] args) {
        bytesThatCannotStand();
        brackets();
        graces();
        ornamentsAndWords();
        barsAndColons();
        changes();
        tuplets();
        slurs();
        broken();
        pitches();
        rests();
        tooManyThings();
        tooManyMeasures();
        unfinished();
        Check.finish();
    }

    private static String times(int many, String part) {
        return part.repeat(many);
    }

    private static void bytesThatCannotStand() {
        String wrong = "#$%&'*+,-/0123456789;?@IJKLNOQRSUVWXY\\]`hijklmnopqrstwy}";
        for (int i = 0; i < wrong.length(); i++) {
            if (wrong.charAt(i) != '%') {
                Check.musicFault("C | " + wrong.charAt(i) + "D", 1, 4);
            }
        }
        Check.musicFault("C--", 1, 2);
        Check.musicFault("C -", 1, 2);
        Check.musicFault("z-", 1, 1);
        Check.musicFault("Z-", 1, 0);
        Check.musicFault("^", 1, 1);
        Check.musicFault("^^^C", 1, 2);
        Check.musicFault("==C", 1, 1);
        Check.musicFault("___C", 1, 2);
        Check.musicFault("^_C", 1, 1);
        Check.musicFault("^ C", 1, 1);
        Check.musicFault("_z", 1, 1);
        Check.musicFault("C ^  % x\nC", 1, 3);
        Check.musicFault("C ^\\\nC", 1, 3);
        Check.musicFault("C ^ \\\nC", 1, 3);
        Check.musicFault("C ^\nC", 1, 3);
    }

    private static void brackets() {
        Check.musicFault("[]", 1, 1);
        Check.musicFault("[", 1, 1);
        Check.musicFault("[C", 1, 2);
        Check.musicFault("[C\nE]", 1, 2);
        Check.musicFault("[C-E]", 1, 2);
        Check.musicFault("[Cz]", 1, 2);
        Check.musicFault("[z]", 1, 1);
        Check.musicFault("[C E]", 1, 2);
        Check.musicFault("[5", 1, 1);
        Check.musicFault("[0", 1, 1);
        Check.musicFault("[V]", 1, 1);
        Check.musicFault("[T:x]", 1, 1);
        Check.musicFault("[A:x]", 1, 2);
        Check.musicFault("[CDEFGABcdefga]", 2, 13);
        Check.musicFault("[CDEFGABcdefg^]", 2, 13);
        Check.musicFault("[CDEFGABcdefgz]", 1, 13);
    }

    private static void graces() {
        Check.musicFault("{}", 1, 1);
        Check.musicFault("{", 1, 1);
        Check.musicFault("{C", 1, 2);
        Check.musicFault("{C-}", 1, 2);
        Check.musicFault("{z}", 1, 1);
        Check.musicFault("{[CE]}", 1, 1);
        Check.musicFault("{C D}", 1, 2);
        Check.musicFault("{CDEFGABcd}", 2, 9);
        Check.musicFault("{CDEFGABc_}", 2, 9);
        Check.musicFault("{CDEFGABc]", 1, 9);
    }

    private static void ornamentsAndWords() {
        Check.musicFault("!!", 1, 1);
        Check.musicFault("!", 1, 1);
        Check.musicFault("!a", 1, 2);
        Check.musicFault("!a b!", 1, 2);
        Check.musicFault("!a1!", 1, 2);
        Check.musicFault("!abcdefghijklm!", 1, 13);
        Check.musicFault("\"", 1, 1);
        Check.musicFault("\"abc", 1, 4);
        Check.musicFault("\"abc % \"", 1, 4);
        Check.musicFault("\"" + times(21, "x") + "\"", 1, 21);
        Check.due("twenty bytes", Check.fed(0, Check.tune("", "\"" + times(20, "!") + "\"")).read(), 0);
    }

    private static void barsAndColons() {
        Check.musicFault("C :", 1, 2);
        Check.musicFault(":C", 1, 0);
        Check.musicFault("|5", 1, 1);
        Check.musicFault("|0", 1, 1);
        Check.musicFault("|12", 1, 2);
        Check.musicFault("| 1", 1, 2);
        Check.musicFault("||1", 1, 2);
        Check.musicFault("|]1", 1, 2);
        Check.musicFault("|:1", 1, 2);
        Check.musicFault("::1", 1, 2);
        Check.musicFault("[|1", 1, 2);
        Check.musicFault("||:C", 1, 2);
        Check.musicFault(":|]", 1, 2);
        Check.musicFault(":::", 1, 2);
    }

    private static void changes() {
        Check.musicFault("[K:C", 1, 4);
        Check.musicFault("[K:C  % ]", 1, 4);
        Check.musicFault("[K:C x]", 1, 5);
        Check.musicFault("[K: ]", 1, 4);
        Check.musicFault("[V:4]", 1, 3);
        Check.musicFault("[V:0]", 1, 3);
        Check.musicFault("[V: 2 2]", 1, 6);
        Check.musicFault("[M:4/3]", 1, 5);
        Check.musicFault("[L:1/6]", 1, 5);
        Check.musicFault("[K:C\n]", 1, 4);
        Check.musicFault("[ K:C]", 1, 1);
        Check.due("blanks behind : and ahead of ]",
                Check.fed(0, Check.tune("", "[K:  C  ][V: 2 ][M:   C|   ]\nL:   1/8   ")).read(), 3);
    }

    private static void tuplets() {
        Check.musicFault("(0CC", 1, 1);
        Check.musicFault("(1CC", 1, 1);
        Check.musicFault("(3(1C", 1, 3);
        Check.musicFault("(3:0CDE", 1, 3);
        Check.musicFault("(3::0CDE", 1, 4);
        Check.musicFault("(32CDE", 1, 2);
        Check.musicFault("(3:22CDE", 1, 4);
        Check.musicFault("(3:2:22CDE", 1, 6);
        Check.musicFault("(3:2:2:CDE", 1, 6);
        Check.musicFault("(3:2::CDE", 1, 5);
        Check.musicFault("((((C(0", 1, 6);
        Check.musicFault("(3C(3:0CDE", 5, 3);
        Check.musicFault("(3C | [V:2] D (2", 5, 14);
        Check.due("one behind another", Check.fed(0, Check.tune("", "(3CDE(2CD")).read(), 5);
    }

    private static void slurs() {
        Check.musicFault("C)", 5, 1);
        Check.musicFault("(C))", 5, 3);
        Check.musicFault("((((C(D))))", 5, 5);
        Check.musicFault("( 3C", 1, 2);
        Check.due("four slurs again", Check.fed(0, Check.tune("", "((((C)(D))))")).read(), 2);
    }

    private static void broken() {
        Check.musicFault(">C", 5, 0);
        Check.musicFault("| <C", 5, 2);
        Check.musicFault("C | >D", 5, 4);
        Check.musicFault("(C)>D", 5, 3);
        Check.musicFault("C.>D", 5, 2);
        Check.musicFault("C{d}>D", 5, 4);
        Check.musicFault("C[K:C]>D", 5, 6);
        Check.musicFault("C\n>D", 5, 2);
        Check.musicFault("C > ", 5, 3);
        Check.musicFault("C >> % x\nD", 5, 4);
        Check.musicFault("C >\\\nD", 5, 3);
        Check.musicFault("C> \\\nD", 5, 3);
        Check.musicFault("C>>>>D", 5, 4);
        Check.musicFault("C><D", 5, 2);
        Check.musicFault("C<<>D", 5, 3);
        Check.musicFault("C>|D", 5, 2);
        Check.musicFault("C>(D)", 5, 2);
        Check.musicFault("C>{d}D", 5, 2);
        Check.musicFault("C>.D", 5, 2);
        Check.musicFault("C>\"x\"D", 5, 2);
        Check.musicFault("C> [1D", 5, 3);
        Check.musicFault("C>[|D", 5, 2);
        Check.musicFault("C>[K:C]D", 5, 2);
        Check.musicFault("C>?", 5, 2);
        Check.musicFault("C>[T:x]", 1, 3);
        Check.musicFault("C>[5", 1, 3);
        Check.musicFault("C>^?", 1, 3);
        Check.fault(Check.tune("M:C\n", "Z>C"), 5, Check.at("M:C\n") + 1);
        Check.fault(Check.tune("M:C\n", "C>Z"), 5, Check.at("M:C\n") + 2);
    }

    private static void pitches() {
        Check.musicFault("C,,,,,,", 4, 0);
        Check.musicFault("C _C,,,,,", 4, 2);
        Check.musicFault("__D,,,,, __D,,,,,, __D,,,,", 4, 9);
        Check.musicFault("B,,,,,,", 4, 0);
        Check.musicFault("g'''' ^g''''", 4, 6);
        Check.musicFault("a''''", 4, 0);
        Check.musicFault("[Cg'''''?", 4, 2);
        Check.musicFault("{Cg'''''?", 4, 2);
        Check.musicFault("c''''''0", 4, 0);
        Check.musicFault("c" + times(1500, "'"), 4, 0);
        Check.musicFault("C" + times(1500, ","), 4, 0);
        Check.fault("X:1\nT:a\nK:Cb\nC,,,,,", 4, 13);
        Check.due("octaves there and back", Check.fed(0,
                Check.tune("", "C" + times(500, "'") + times(500, ","))).read(), 1);
    }

    private static void rests() {
        Check.musicFault("C Z", 1, 2);
        String heads = "M:4/4\n";
        int at = Check.at(heads);
        Check.fault(Check.tune(heads, "Z0"), 1, at + 1);
        Check.fault(Check.tune(heads, "Z17"), 1, at + 1);
        Check.fault(Check.tune(heads, "Z 2"), 1, at + 2);
        Check.fault(Check.tune(heads, "Z2/2"), 1, at + 2);
        Check.fault(Check.tune(heads, "[M:none]Z2"), 1, at + 8);
        Check.fault(Check.tune(heads, "[V:2][M:none][V:1]Z [V:2]Z"), 1, at + 25);
    }

    private static void tooManyThings() {
        String heads = "M:4/4\n";
        String rows = times(400, "||\n");
        int at = Check.at(heads) + rows.length();
        Check.due("400 THINGS", Check.fed(0, Check.tune(heads, rows)).read(), 400);
        String[] more = {"|", " c''''''", "^c,x", "z0", "x", "Z17", "[C0", "[^C", "{^c'0", "[K:Cx", "M:3/4 x",
            "L:1/8", ":|", "::", "[1", "[C]"};
        int[] places = {0, 1, 0, 0, 0, 0, 1, 1, 1, 0, 0, 0, 0, 0, 0, 1};
        for (int i = 0; i < more.length; i++) {
            Check.fault(Check.tune(heads, rows + more[i]), 2, at + places[i]);
        }
        String[] other = {":", "^?", "[K:H]", "M:4/3", "[?", "{?", "(0", "[V:4]"};
        int[] otherPlaces = {0, 1, 3, 4, 1, 1, 1, 3};
        for (int i = 0; i < other.length; i++) {
            Check.fault(Check.tune(heads, rows + other[i]), 1, at + otherPlaces[i]);
        }
        Check.fault(Check.tune(heads, rows + "K:G#"), 3, at + 2);
        Check.fault(Check.tune(heads, rows + "[M:none]"), 2, at);
        Check.due("no THINGS", Check.fed(0, Check.tune(heads, rows + "[V:3] \"x\" . ()")).read(), 400);
        Check.fault(Check.tune("", rows + "Z"), 1, Check.at("") + rows.length());
    }

    private static void tooManyMeasures() {
        String heads = "M:4/4\n";
        String all = times(18, "Z16|") + "Z12|";
        int at = Check.at(heads) + all.length();
        AbcForms x = Check.fed(0, Check.tune(heads, all));
        Check.due("300 MEASURES", x.read(), 38);
        Check.due("how many", x.measures(1), 300);
        String[] more = {"C", "^?", "z0", "x", "[?", "[C]", "Z", "Z17", "[M:none]Z"};
        int[] places = {0, 0, 0, 0, 0, 0, 0, 0, 8};
        for (int i = 0; i < more.length; i++) {
            Check.fault(Check.tune(heads, all + more[i]), 2, at + places[i]);
        }
        Check.fault(Check.tune(heads, all + "{?"), 1, at + 1);
        Check.due("bars and graces begin none", Check.fed(0, Check.tune(heads, all + "{c}||.[K:C]")).read(), 41);
        Check.due("another VOICE has its own", Check.fed(0, Check.tune(heads, all + "[V:2]CZ16")).read(), 40);
        String open = times(18, "Z16|") + "Z11|";
        at = Check.at(heads) + open.length();
        Check.fault(Check.tune(heads, open + "Z2"), 2, at);
        Check.fault(Check.tune(heads, open + "Z17"), 1, at + 1);
        Check.fault(Check.tune(heads, open + "C Z2"), 2, at + 2);
        Check.due("the 300th", Check.fed(0, Check.tune(heads, open + "C Z Z1 C")).read(), 42);
    }

    private static void unfinished() {
        Check.musicFault("(3CD", 6, 4);
        Check.musicFault("(3CD\n\n % x\n", 6, 11);
        Check.musicFault("(C D\n", 6, 5);
        Check.musicFault("((C D)", 6, 6);
        Check.musicFault("(3::4CDE", 6, 8);
        Check.musicFault("(3CD\n\nE", 1, 6);
        Check.musicFault("(3", 6, 2);
        Check.musicFault("(", 6, 1);
    }
}
