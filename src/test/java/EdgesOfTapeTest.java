/** The boundary cases of promises 1 to 5: a new object, feed, end, read, place. */
public final class EdgesOfTapeTest {
    private static final String TUNE = "X:1\nT:a\nK:C\nCDE|\n";

    public static void main(String[] args) {
        othersAsTheNearest();
        emptyTapeAndNoTune();
        atMost512Calls();
        highestByteFirst();
        fullAbove2400();
        aFullTapeIsAsItWas();
        firstBytesStay();
        anotherNumberIsBad();
        fewerThanTwentyAreBad();
        emptyBehindRead();
        howManyThings();
        tenLessAFault();
        placeOfTheLatestRead();
        Check.finish();
    }

    private static void othersAsTheNearest() {
        Edge.sentence("RULE 0, 1 (others as the nearest).");
        int[] low = {0, -1, -2, Integer.MIN_VALUE};
        int[] high = {1, 2, 3, Integer.MAX_VALUE};
        String text = Check.tune("", "^C c");
        for (int i = 0; i < low.length; i++) {
            Edge.asked(low[i], text, 2, x -> {
                Check.due("head(9)", x.head(9), 0);
                Check.cells(x, 3, 0, 61, 73);
            });
            Edge.asked(high[i], text, 2, x -> {
                Check.due("head(9)", x.head(9), 1);
                Check.cells(x, 3, 0, 61, 72);
            });
        }
    }

    private static void emptyTapeAndNoTune() {
        Edge.sentence("An empty tape, no tune.");
        for (int rule = 0; rule <= 1; rule++) {
            AbcForms x = new AbcForms(rule);
            Edge.noTune(x);
            Check.due("place() of a new object", x.place(), AbcForms.NONE);
            Check.due("end(0) of an empty tape", x.end(0), AbcForms.BAD);
            Check.due("end(20) of an empty tape", x.end(20), AbcForms.BAD);
            Check.due("the first feed", x.feed(0, 0, 0, 0, 0), 20);
            Edge.noTune(x);
            AbcForms y = new AbcForms(rule);
            Check.due("read() of an empty tape", y.read(), -11);
            Check.due("place() of an empty tape", y.place(), 0);
        }
    }

    private static void atMost512Calls() {
        Edge.sentence("An object is used for at most 512 calls after it has been made");
        AbcForms x = new AbcForms(0);
        for (int call = 1; call <= 508; call += 4) {
            Check.due("feed as call " + call, x.feed(0x583a310a, 0x543a610a, 0x4b3a430a, 0x4344457c, 0x20202020), 20);
            Check.due("end as call " + (call + 1), x.end(16), 16);
            Check.due("read() as call " + (call + 2), x.read(), 4);
            Check.due("start(3) as call " + (call + 3), x.start(3), 3 * 161280);
        }
        Check.due("call 509", x.thing(2, 3), 64);
        Check.due("call 510", x.thing(3, 0), 4);
        Check.due("call 511", x.thing(4, 0), AbcForms.BAD);
        Check.due("call 512", x.head(7), 4);
    }

    private static void highestByteFirst() {
        Edge.sentence("Twenty bytes come behind the tape, the highest of each number first: how many it has.");
        for (int past = 0; past < Edge.pasts(); past++) {
            AbcForms x = Edge.withPast(0, past);
            Check.due("the first twenty", x.feed(0x583a310a, 0x543a4142, 0x43444546, 0x4748494a, 0x4b4c4d4e), 20);
            Check.due("twenty behind them", x.feed(0x4f505152, 0x53545556, 0x25ff8001, 0x80ff0000, 0x0a4b3a43), 40);
            Check.due("read()", x.read(), 0);
            Check.due("title(0, -1)", x.title(0, -1), 22);
            for (int k = 0; k < 22; k++) {
                Check.due("title(0, " + k + ")", x.title(0, k), 'A' + k);
            }
        }
        int[] shifts = {24, 16, 8, 0};
        for (int i = 0; i < shifts.length; i++) {
            AbcForms x = new AbcForms(0);
            x.feed(0x583a310a, 0x543a6161, 0x61616161, 0x61616161 | 0x80 << shifts[i], 0x61616161);
            Check.due("a byte above 127", x.read(), -11);
            Check.due("its place", x.place(), 12 + i);
        }
    }

    private static AbcForms fedTo2400(int past) {
        AbcForms x = Edge.withPast(0, past);
        Edge.feed(x, TUNE + "\n  ");
        for (int size = 40; size <= 2400; size += 20) {
            Check.due("feed to " + size, x.feed(0x20202020, 0x20202020, 0x20202020, 0x20202020, 0x20202020), size);
        }
        return x;
    }

    private static void fullAbove2400() {
        Edge.sentence("FULL: above 2,400.");
        for (int past = 0; past < Edge.pasts(); past++) {
            AbcForms x = fedTo2400(past);
            Check.due("feed to 2,420", x.feed(0, 0, 0, 0, 0), AbcForms.FULL);
            Check.due("end(19)", x.end(19), 2399);
            Check.due("feed to 2,419", x.feed(0, 0, 0, 0, 0), AbcForms.FULL);
            Check.due("end(2)", x.end(2), 2381);
            Check.due("feed to 2,401", x.feed(0, 0, 0, 0, 0), AbcForms.FULL);
            Check.due("end(19)", x.end(19), 2380);
            Check.due("feed to just 2,400", x.feed(0, 0, 0, 0, 0), 2400);
            Check.due("read() of 2,400", x.read(), -12);
            Check.due("the tape is empty behind it", x.feed(0, 0, 0, 0, 0), 20);
        }
    }

    private static void aFullTapeIsAsItWas() {
        Edge.sentence("FULL: above 2,400.");
        for (int past = 0; past < Edge.pasts(); past++) {
            AbcForms x = fedTo2400(past);
            Check.due("a feed that is refused", x.feed(-1, -1, -1, -1, -1), AbcForms.FULL);
            Check.due("all are there", x.end(20), 2400);
            for (int size = 2380; size >= 2000; size -= 20) {
                Check.due("end(0) to " + size, x.end(0), size);
            }
            Check.due("read() of what is left", x.read(), 4);
        }
    }

    private static void firstBytesStay() {
        Edge.sentence("Of the last twenty bytes of the tape the first n (0 .. 20) stay: how many it has.");
        for (int n = 0; n <= 20; n++) {
            AbcForms x = Edge.withPast(0, n % Edge.pasts());
            Edge.feed(x, "X:1\nT:a\nK:C\n" + "| ".repeat(13) + "\n");
            Check.due("feed", x.feed(0x7a7a7a7a, 0x7a7a7a7a, 0x7a7a7a7a, 0x7a7a7a7a, 0x7a7a7a7a), 59);
            Check.due("end(" + n + ")", x.end(n), 39 + n);
            Check.due("read() behind end(" + n + ")", x.read(), 13 + n);
        }
        for (int past = 0; past < Edge.pasts(); past++) {
            AbcForms x = Edge.withPast(0, past);
            Edge.feed(x, TUNE + "%bcdefghijklmnopqrst%?");
            Check.due("end(2) of 39", x.end(2), 21);
            Check.due("end(19) of 21: bytes of two feeds", x.end(19), 20);
            Check.due("end(16) of 20", x.end(16), 16);
            Check.due("read() of what stays", x.read(), 4);
        }
    }

    private static void anotherNumberIsBad() {
        Edge.sentence("BAD: another n, or fewer than twenty are there.");
        int[] others = {-1, 21, -2, 40, Integer.MIN_VALUE, Integer.MAX_VALUE};
        for (int past = 0; past < Edge.pasts(); past++) {
            AbcForms x = Edge.withPast(0, past);
            Edge.feed(x, "X:1\nT:a\nK:C\nCDE|C  \n");
            for (int n : others) {
                Check.due("end(" + n + ")", x.end(n), AbcForms.BAD);
            }
            Check.due("the least n", Edge.withPast(0, past).end(0), AbcForms.BAD);
            Check.due("end(20) lets all stay", x.end(20), 20);
            Check.due("read()", x.read(), 5);
        }
    }

    private static void fewerThanTwentyAreBad() {
        Edge.sentence("BAD: another n, or fewer than twenty are there.");
        for (int past = 0; past < Edge.pasts(); past++) {
            AbcForms x = Edge.withPast(0, past);
            Check.due("end(0) of none", x.end(0), AbcForms.BAD);
            x.feed(0x583a310a, 0x543a610a, 0x4b3a430a, 0x4344457c, 0x4344457c);
            Check.due("end(19) of twenty", x.end(19), 19);
            for (int n = -1; n <= 21; n++) {
                Check.due("end(" + n + ") of nineteen", x.end(n), AbcForms.BAD);
            }
            Check.due("read() of nineteen", x.read(), 7);
            Check.due("end(0) behind read()", x.end(0), AbcForms.BAD);
            x.feed(0, 0, 0, 0, 0);
            Check.due("end(0) of twenty", x.end(0), 0);
            Check.due("end(0) of none again", x.end(0), AbcForms.BAD);
        }
    }

    private static void emptyBehindRead() {
        Edge.sentence("The tape, which is empty then, is the tune");
        for (int past = 0; past < Edge.pasts(); past++) {
            AbcForms x = Edge.withPast(0, past);
            Edge.feed(x, TUNE);
            Check.due("read()", x.read(), 4);
            Check.due("the tape behind a tune", x.feed(0, 0, 0, 0, 0), 20);
            Check.due("a tune stays while another is fed", x.thing(2, 3), 64);
            Check.due("read() of a FAULT", x.read(), -11);
            Check.due("the tape behind a FAULT", x.feed(0, 0, 0, 0, 0), 20);
            Check.due("end(0)", x.end(0), 0);
            Edge.noTune(x);
            Edge.feed(x, TUNE);
            Check.due("read() again", x.read(), 4);
            Check.due("read() of an empty tape", x.read(), -11);
            Check.due("its place", x.place(), 0);
            Edge.noTune(x);
        }
    }

    private static void howManyThings() {
        Edge.sentence("is the tune: how many THINGS; - 10 less a FAULT (there is no tune then).");
        Edge.letMusic("", "", 0);
        Edge.letMusic("", "C", 1);
        Edge.letMusic("", "| ".repeat(399), 399);
        Edge.letMusic("", "| ".repeat(400), 400);
    }

    private static void tenLessAFault() {
        Edge.sentence("- 10 less a FAULT (there is no tune then).");
        Edge.refusedMusic("", "CDE?", 1, 3);
        Edge.refusedMusic("", "| ".repeat(401), 2, 800);
        Edge.refused("X:1\nT:a\nK:G#\n", 3, 10);
        Edge.refusedMusic("", "CDEC,,,,,,", 4, 3);
        Edge.refusedMusic("", "CDE)", 5, 3);
        Edge.refusedMusic("", "CD(E", 6, 4);
    }

    private static void placeOfTheLatestRead() {
        Edge.sentence("The place of the latest read()'s FAULT. NONE: none.");
        AbcForms x = new AbcForms(0);
        Check.due("ahead of all", x.place(), AbcForms.NONE);
        Edge.feed(x, "X:1\nT:a\nK:C\nC?");
        Check.due("ahead of read()", x.place(), AbcForms.NONE);
        x.read();
        Check.due("of a FAULT", x.place(), 13);
        Check.due("of a FAULT, asked again", x.place(), 13);
        Edge.feed(x, TUNE);
        Check.due("while a tune is fed", x.place(), 13);
        x.read();
        Check.due("of a tune", x.place(), AbcForms.NONE);
        Edge.feed(x, "?");
        Check.due("while a FAULT is fed", x.place(), AbcForms.NONE);
        x.read();
        Check.due("the least one", x.place(), 0);
        for (int i = 0; i < 120; i++) {
            x.feed(0, 0, 0, 0, 0);
        }
        x.read();
        Check.due("the greatest one", x.place(), 2000);
        Edge.feed(x, "X:1\nT:a\nK:C\n(");
        x.read();
        Check.due("the text's end", x.place(), 13);
    }
}
