import java.nio.charset.StandardCharsets;

/** Promises 1 to 5: a new object, feed, end, read, place. */
public final class TapeTest {
    private static final String TUNE = "X:1\nT:a\nK:C\nCDE|\n";

    public static void main(String[] args) {
        newObject();
        rules();
        feeding();
        feedingToTheFull();
        ending();
        reading();
        places();
        longTexts();
        bytes();
        Check.finish();
    }

    private static void newObject() {
        AbcForms x = new AbcForms(0);
        noTune(x);
        Check.due("place() of a new object", x.place(), AbcForms.NONE);
        Check.due("end(0) of an empty tape", x.end(0), AbcForms.BAD);
        Check.due("read() of an empty tape", x.read(), -11);
        Check.due("place() of an empty tape", x.place(), 0);
        noTune(x);
    }

    private static void noTune(AbcForms x) {
        for (int what = -1; what <= 10; what++) {
            Check.due("head(" + what + ") without tune", x.head(what), AbcForms.BAD);
        }
        Check.due("title(0, -1) without tune", x.title(0, -1), AbcForms.BAD);
        Check.due("thing(0, 0) without tune", x.thing(0, 0), AbcForms.BAD);
        Check.due("time(0) without tune", x.time(0), AbcForms.BAD);
        Check.due("start(0) without tune", x.start(0), AbcForms.BAD);
        Check.due("measures(1) without tune", x.measures(1), AbcForms.BAD);
        Check.due("full(1, 0) without tune", x.full(1, 0), AbcForms.BAD);
        Check.due("length(1, 0) without tune", x.length(1, 0), AbcForms.BAD);
        Check.due("played(-1) without tune", x.played(-1), AbcForms.BAD);
        Check.due("played(0) without tune", x.played(0), AbcForms.BAD);
        Check.due("written(0, -1) without tune", x.written(0, -1), AbcForms.BAD);
    }

    private static void rules() {
        int[] told = {0, 1, 2, -1, Integer.MAX_VALUE, Integer.MIN_VALUE};
        int[] wanted = {0, 1, 1, 0, 1, 0};
        for (int i = 0; i < told.length; i++) {
            Check.due("RULE of " + told[i], Check.read(told[i], TUNE).head(9), wanted[i]);
        }
        String music = Check.tune("", "^C c C");
        Check.cells(Check.read(told[3], music), 3, 0, 61, 73, 61);
        Check.cells(Check.read(told[2], music), 3, 0, 61, 72, 61);
    }

    private static void feeding() {
        AbcForms x = new AbcForms(0);
        Check.due("first feed", x.feed(0x583a310a, 0x543a610a, 0x4b3a430a, 0x4344457c, 0x0a202020), 20);
        Check.due("end(17)", x.end(17), 17);
        Check.due("read() of the bytes, highest first", x.read(), 4);
        Check.cells(x, 4, 0, 0, 1, 2);
        Check.due("the tape is empty behind read()", x.feed(0, 0, 0, 0, 0), 20);
        Check.due("bytes 0 of the tape", x.read(), -11);
        Check.due("place of the byte 0", x.place(), 0);
    }

    private static void feedingToTheFull() {
        AbcForms x = new AbcForms(0);
        for (int i = 1; i <= 120; i++) {
            Check.due("feed " + i, x.feed(0, 0, 0, 0, 0), 20 * i);
        }
        Check.due("feed above 2,400", x.feed(0, 0, 0, 0, 0), AbcForms.FULL);
        Check.due("end(19) of a full tape", x.end(19), 2399);
        Check.due("feed of 2,419", x.feed(0, 0, 0, 0, 0), AbcForms.FULL);
        Check.due("end(1) behind a refused feed", x.end(1), 2380);
        Check.due("feed to just 2,400", x.feed(0, 0, 0, 0, 0), 2400);
    }

    private static void ending() {
        AbcForms x = new AbcForms(0);
        x.feed(0x583a310a, 0x543a610a, 0x4b3a430a, 0x43204420, 0x45204620);
        Check.due("end(-1)", x.end(-1), AbcForms.BAD);
        Check.due("end(21)", x.end(21), AbcForms.BAD);
        Check.due("end(max)", x.end(Integer.MAX_VALUE), AbcForms.BAD);
        Check.due("end(min)", x.end(Integer.MIN_VALUE), AbcForms.BAD);
        Check.due("end(20)", x.end(20), 20);
        Check.due("end(13)", x.end(13), 13);
        Check.due("end of fewer than twenty", x.end(20), AbcForms.BAD);
        x.feed(0x44452020, 0, 0, 0, 0);
        Check.due("end(2) behind 13", x.end(2), 15);
        Check.due("what stays is what was first", x.read(), 3);
        x.feed(0, 0, 0, 0, 0);
        Check.due("end(0)", x.end(0), 0);
    }

    private static void reading() {
        AbcForms x = Check.fed(0, TUNE);
        Check.due("read()", x.read(), 4);
        Check.due("place() without FAULT", x.place(), AbcForms.NONE);
        Check.feed(x, "X:2\nT:bb\nK:G\n".getBytes(StandardCharsets.ISO_8859_1));
        Check.due("a tune stays while another is fed", x.head(0), 1);
        Check.due("its title, too", x.title(0, 0), 'a');
        Check.due("a tune without THINGS", x.read(), 0);
        Check.due("the new tune's number", x.head(0), 2);
        Check.due("no THING of the old tune", x.thing(0, 0), AbcForms.BAD);
        Check.due("no MEASURE of the old tune", x.measures(1), 0);
        Check.due("nothing PLAYED of the old tune", x.played(-1), 0);
        Check.due("a tape that was read is empty", x.read(), -11);
        noTune(x);
        Check.feed(x, "X:3\nT:c\nL:1/4\nK:C\n^C [V:2] c- | Z".getBytes(StandardCharsets.ISO_8859_1));
        Check.due("a FAULT late in a text", x.read(), -11);
        noTune(x);
        Check.feed(x, "X:3\nT:c\nK:C\nC(Cc".getBytes(StandardCharsets.ISO_8859_1));
        Check.due("an open slur", x.read(), -16);
        Check.feed(x, "X:3\nT:c\nK:C\n(3 C".getBytes(StandardCharsets.ISO_8859_1));
        Check.due("an open TUPLET", x.read(), -16);
        Check.feed(x, "X:3\nT:c\nK:C\nCc".getBytes(StandardCharsets.ISO_8859_1));
        Check.due("nothing is left of an earlier text", x.read(), 2);
        Check.cells(x, 3, 0, 60, 72);
        Check.times(x, 0, 161280, 161280);
        Check.starts(x, 0, 0, 161280);
        Check.due("greatest VOICE", x.head(8), 1);
        Check.due("MEASURES of VOICE 2", x.measures(2), 0);
    }

    private static void places() {
        AbcForms x = Check.fed(0, "X:1\nT:a\nK:C\nC?");
        Check.due("place() ahead of read()", x.place(), AbcForms.NONE);
        Check.due("read()", x.read(), -11);
        Check.due("place() is told", x.place(), 13);
        Check.due("place() is told again", x.place(), 13);
        Check.feed(x, TUNE.getBytes(StandardCharsets.ISO_8859_1));
        Check.due("place() while another is fed", x.place(), 13);
        x.read();
        Check.due("place() of the latest read()", x.place(), AbcForms.NONE);
    }

    private static void longTexts() {
        String heads = "X:1\nT:a\nK:C\n";
        Check.due("2,000 bytes", Check.fed(0, filled(heads, 2000)).read(), 0);
        Check.fault(filled(heads, 2001), 2, 2000);
        Check.fault(filled("?", 2001), 2, 2000);
        Check.fault(filled("\u0001", 2400), 2, 2000);
    }

    private static String filled(String text, int size) {
        StringBuilder b = new StringBuilder(text);
        while (b.length() < size) {
            b.append(' ');
        }
        return b.toString();
    }

    private static void bytes() {
        Check.fault("?\nX:1\n\t", 1, 6);
        Check.fault("?\u0001", 1, 1);
        Check.fault("?%\n?\u0001", 1, 4);
        Check.fault("X:0\nT:a\u007f", 1, 7);
        Check.fault("X:0\nT:\u00e4", 1, 6);
        Check.fault("X:1\nT:a\nK:C\nC\r\n", 1, 13);
        Check.fault("X:1\nT:a\nK:C\nC\n\n% \u0001\n\u0000", 1, 19);
        Check.due("bytes of any sort behind %",
                Check.fed(0, "X:1%\u0000\nT:a%\u00ff%\nK:C %\t\nC%\u007f").read(), 1);
    }
}
