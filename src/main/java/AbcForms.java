/**
 * Tunes written with letters, read to a row of THINGS with exact times and pitches, judged by
 * MEASURES, PLAYED in order and written again. The words in capitals are those of the document.
 *
 * All rows are made with the object and used again by each read(), so that no call makes anything.
 */
public final class AbcForms {
    public static final int BAD = -1, NONE = -2, FULL = -3;

    private static final int TAPE_MOST = 2400;
    private static final int FED_AT_ONCE = 20;
    private static final int TEXT_MOST = 2000;
    private static final int TITLES_MOST = 3;
    private static final int THINGS_MOST = 400;
    private static final int MEASURES_MOST = 300;
    private static final int VOICES_MOST = 3;
    private static final int PLAYED_MOST = 1000;
    private static final int CHORD_MOST = 12;
    private static final int GRACES_MOST = 8;
    private static final int SLURS_MOST = 4;
    private static final int WORD_MOST = 20;
    private static final int NAME_MOST = 12;
    private static final int PART_MOST = 64;
    /** Far above what any text can need: a guard for loops whose end is not told by a counter. */
    private static final int STEPS_MOST = 1000000;

    private static final int WHOLE = 1290240;
    private static final int LONGEST = 8 * WHOLE;

    private static final int UNREADABLE = 1, TOO_MANY = 2, TOO_MANY_SIGNS = 3, OUT_OF_RANGE = 4,
            MISPLACED = 5, UNFINISHED = 6;

    private static final int NOTE = 0, REST = 1, HIDDEN = 2, BARS = 3, BAR = 4, GRACE = 5, KEY = 6,
            METER = 7, UNIT = 8;

    /** What thing(i, what) tells, by its number. */
    private static final int SORT = 0, VOICE = 1, MEASURE = 2, VALUE = 3, LETTER = 4, OCTAVE = 5,
            SIGN = 6, SIGNED = 7, TIE = 8, CHORD = 9, SPOT = 10, ORNAMENTS = 11, WORDS = 12,
            SLURS_BEGUN = 13, SLURS_ENDED = 14, ENDING = 15, PLACE = 16, CELLS = 17;

    private static final int SINGLE = 0, DOUBLE = 1, CLOSING = 2, OPENING = 3, REPEAT_BEGINS = 4,
            REPEAT_ENDS = 5, REPEAT_BOTH = 6, ENDING_ALONE = 7;

    private static final int NO_SIGN = 9;
    /** No other octave has a PITCH of 0 .. 127, whatever its sign. */
    private static final int LOWEST_OCTAVE = -2, OCTAVES = 12, LETTERS = 7;

    private static final int[] LETTER_PITCHES = {0, 2, 4, 5, 7, 9, 11};
    /** When C, D .. B get their sharp: 0 is first. Flats come the other way round. */
    private static final int[] SHARP_RANKS = {1, 3, 5, 0, 2, 4, 6};
    /** SIGNS of the keys A, B .. G. */
    private static final int[] KEY_SIGNS = {3, 5, 0, 2, 4, -1, 1};
    private static final String ORNAMENT_BYTES = ".~HTMPuv";

    private final int rule;
    private final byte[] tape;
    private int tapeSize;
    private final Text text;
    private final Heads heads;
    private final Row row;
    private final Plan plan;
    private final Music music;
    private boolean tuneThere;
    private boolean tuneEnded;
    private int faultPlace;

    public AbcForms(int rule) {
        this.rule = Math.max(0, Math.min(1, rule));
        tape = new byte[TAPE_MOST];
        text = new Text();
        heads = new Heads();
        row = new Row();
        plan = new Plan();
        music = new Music(text, row, plan, this.rule == 1);
        faultPlace = NONE;
    }

    public int feed(int a, int b, int c, int d, int e) {
        if (tapeSize + FED_AT_ONCE > TAPE_MOST) {
            return FULL;
        }
        putNumber(a);
        putNumber(b);
        putNumber(c);
        putNumber(d);
        putNumber(e);
        return tapeSize;
    }

    private void putNumber(int number) {
        for (int shift = 24; shift >= 0 && tapeSize < TAPE_MOST; shift -= 8) {
            tape[tapeSize] = (byte) (number >> shift);
            tapeSize++;
        }
    }

    public int end(int n) {
        if (n < 0 || n > FED_AT_ONCE || tapeSize < FED_AT_ONCE) {
            return BAD;
        }
        tapeSize = tapeSize - FED_AT_ONCE + n;
        return tapeSize;
    }

    public int read() {
        clearTune();
        for (int steps = 0; steps < STEPS_MOST && text.fault == 0 && text.hasMore(); steps++) {
            if (text.at < text.lineStop) {
                music.readItem();
            } else {
                text.openLine();
                readLineBegin();
            }
        }
        if (!heads.complete) {
            text.refuse(UNREADABLE, text.size);
        } else if (music.isUnfinished()) {
            text.refuse(UNFINISHED, text.size);
        }
        faultPlace = text.faultPlace;
        tuneThere = text.fault == 0;
        if (!tuneThere) {
            return -10 - text.fault;
        }
        plan.play(music.voices[0].count);
        return row.count;
    }

    private void clearTune() {
        text.take(tape, tapeSize);
        tapeSize = 0;
        tuneEnded = false;
        heads.clear();
        row.clear();
        plan.clear();
    }

    private void readLineBegin() {
        if (text.lineStop == text.lineStart) {
            tuneEnded = true;
            if (!heads.complete) {
                text.refuse(UNREADABLE, text.lineStart);
            }
        } else if (tuneEnded) {
            text.refuse(UNREADABLE, text.lineStart);
        } else if (heads.complete) {
            music.beginLine();
        } else {
            heads.takeLine(text);
            if (heads.complete) {
                music.clear(heads.setting);
            }
        }
    }

    public int place() {
        return faultPlace;
    }

    public int head(int what) {
        if (!tuneThere) {
            return BAD;
        }
        switch (what) {
            case 0: return heads.number;
            case 1: return heads.titles;
            case 2: return heads.setting.meterNumber;
            case 3: return heads.setting.meterLower;
            case 4: return heads.setting.unit;
            case 5: return heads.tempo;
            case 6: return heads.setting.signs;
            case 7: return row.count;
            case 8: return music.greatestVoice;
            case 9: return rule;
            default: return BAD;
        }
    }

    public int title(int i, int k) {
        if (!tuneThere || i < 0 || i >= heads.titles || i >= TITLES_MOST) {
            return BAD;
        }
        int size = heads.titleStops[i] - heads.titleFirsts[i];
        if (k == -1) {
            return size;
        }
        return k < 0 || k >= size ? BAD : text.byteAt(heads.titleFirsts[i] + k);
    }

    public int thing(int i, int what) {
        return isThing(i) && what >= 0 && what < CELLS ? row.cell(i, what) : BAD;
    }

    private boolean isThing(int i) {
        return tuneThere && row.has(i);
    }

    public long time(int i) {
        return isThing(i) ? row.ticksOf(i) : BAD;
    }

    public long start(int i) {
        return isThing(i) ? row.startOf(i) : BAD;
    }

    public int measures(int voice) {
        return isVoice(voice) ? music.voices[voice - 1].count : BAD;
    }

    private boolean isVoice(int voice) {
        return tuneThere && voice >= 1 && voice <= VOICES_MOST;
    }

    private boolean isMeasure(int voice, int measure) {
        return isVoice(voice) && measure >= 0 && measure < music.voices[voice - 1].count
                && measure < MEASURES_MOST;
    }

    public int full(int voice, int measure) {
        if (!isMeasure(voice, measure)) {
            return BAD;
        }
        long meter = music.voices[voice - 1].measureMeters[measure];
        return meter == 0 || meter == music.voices[voice - 1].measureTimes[measure] ? 1 : 0;
    }

    public long length(int voice, int measure) {
        return isMeasure(voice, measure) ? music.voices[voice - 1].measureTimes[measure] : BAD;
    }

    public int played(int i) {
        if (!tuneThere) {
            return BAD;
        }
        if (i == -1) {
            return plan.told;
        }
        return i < 0 || i >= plan.told || i >= PLAYED_MOST ? BAD : plan.order[i];
    }

    public int written(int i, int k) {
        if (!isThing(i) || !row.spell(i)) {
            return BAD;
        }
        if (k == -1) {
            return row.spelled;
        }
        return k < 0 || k >= row.spelled || k >= Row.SPELLED_MOST ? BAD : row.spelling[k];
    }

    /** The text, the line at hand without what is passed over in it, and the first FAULT met. */
    private static final class Text {
        final byte[] bytes = new byte[TEXT_MOST];
        int size;
        int lineStart;
        int lineStop;
        int nextLine;
        int at;
        int fault;
        int faultPlace;

        void take(byte[] tape, int count) {
            size = Math.max(0, Math.min(Math.min(count, tape.length), TEXT_MOST));
            System.arraycopy(tape, 0, bytes, 0, size);
            lineStart = 0;
            lineStop = 0;
            nextLine = 0;
            at = 0;
            fault = 0;
            faultPlace = NONE;
            if (count > TEXT_MOST) {
                refuse(TOO_MANY, TEXT_MOST);
            }
            refuseForeignBytes();
        }

        /** Only the first FAULT is kept: what is read on behind one does not matter any more. */
        void refuse(int number, int where) {
            if (fault == 0) {
                fault = number;
                faultPlace = where;
            }
        }

        private void refuseForeignBytes() {
            boolean passedOver = false;
            for (int i = 0; i < size; i++) {
                if (bytes[i] == 10) {
                    passedOver = false;
                } else if (bytes[i] == '%') {
                    passedOver = true;
                } else if (!passedOver && (bytes[i] < 32 || bytes[i] > 126)) {
                    refuse(UNREADABLE, i);
                }
            }
        }

        boolean hasMore() {
            return at < lineStop || nextLine < size;
        }

        void openLine() {
            lineStart = nextLine;
            int lineBreak = lineStart;
            while (lineBreak < size && bytes[lineBreak] != 10) {
                lineBreak++;
            }
            lineStop = lineStart;
            while (lineStop < lineBreak && bytes[lineStop] != '%') {
                lineStop++;
            }
            while (lineStop > lineStart && bytes[lineStop - 1] == ' ') {
                lineStop--;
            }
            if (lineStop > lineStart && bytes[lineStop - 1] == '\\') {
                lineStop--;
            }
            nextLine = lineBreak + 1;
            at = lineStart;
        }

        /** 0 outside the text: a byte that stands nowhere in what is read. */
        int byteAt(int where) {
            return where >= 0 && where < size && where < TEXT_MOST ? bytes[where] : 0;
        }

        /** The byte so far behind the one at hand; 0 where the line has ended. */
        int ahead(int distance) {
            int where = at + distance;
            return where >= 0 && where < lineStop && where < TEXT_MOST ? bytes[where] : 0;
        }

        /** As ahead(0), told again to keep the calls that stand open at once few. */
        int peek() {
            return at >= 0 && at < lineStop && at < TEXT_MOST ? bytes[at] : 0;
        }

        boolean atDigit() {
            int b = peek();
            return b >= '0' && b <= '9';
        }

        boolean atNoteLetter() {
            int b = peek();
            return b >= 'A' && b <= 'G' || b >= 'a' && b <= 'g';
        }

        boolean atNote() {
            int b = peek();
            return b == '^' || b == '=' || b == '_' || atNoteLetter();
        }

        boolean atLetter() {
            int b = peek();
            return b >= 'A' && b <= 'Z' || b >= 'a' && b <= 'z';
        }

        /** The letter of a line that begins with a letter and a colon; 0 of another. */
        int fieldLetter() {
            return atLetter() && ahead(1) == ':' ? peek() : 0;
        }

        void skipBlanks() {
            while (at < lineStop && peek() == ' ') {
                at++;
            }
        }

        boolean takeByte(int wanted) {
            if (peek() != wanted) {
                return false;
            }
            at++;
            return true;
        }

        void need(int wanted) {
            if (!takeByte(wanted)) {
                refuse(UNREADABLE, at);
            }
        }

        /** A word is there whole or not at all. */
        boolean takeWord(String word) {
            for (int i = 0; i < word.length(); i++) {
                int where = at + i;
                if (where < 0 || where >= lineStop || where >= TEXT_MOST
                        || bytes[where] != word.charAt(i)) {
                    return false;
                }
            }
            at += word.length();
            return true;
        }

        /** A digit low .. high, or 0 if none such is there. */
        int takeDigit(int low, int high) {
            int value = peek() - '0';
            if (value < low || value > high) {
                return 0;
            }
            at++;
            return value;
        }

        /** At a FAULT the answer is low, so that it can be reckoned with in any case. */
        int takeNumber(int low, int high) {
            int first = at;
            int value = 0;
            while (at < lineStop && peek() >= '0' && peek() <= '9') {
                if (value <= high) {
                    value = value * 10 + peek() - '0';
                }
                at++;
            }
            if (at == first || value < low || value > high) {
                refuse(UNREADABLE, first);
                return low;
            }
            return value;
        }

        /** 1, 2, 4 .. high; at a FAULT 1, which divides everything. */
        int takePower(int high) {
            int first = at;
            int value = takeNumber(1, high);
            if (Integer.bitCount(value) != 1) {
                refuse(UNREADABLE, first);
                return 1;
            }
            return value;
        }

        /** A sign of a note, or NO_SIGN. */
        int takeSign() {
            if (takeByte('=')) {
                return 0;
            }
            if (takeByte('^')) {
                return takeByte('^') ? 2 : 1;
            }
            if (takeByte('_')) {
                return takeByte('_') ? -2 : -1;
            }
            return NO_SIGN;
        }
    }

    /** A key, a meter and a unit: those of the heads, and those of each VOICE. */
    private static final class Setting {
        int signs;
        int meterNumber;
        int meterLower;
        int unit;

        void copyFrom(Setting other) {
            signs = other.signs;
            meterNumber = other.meterNumber;
            meterLower = other.meterLower;
            unit = other.unit;
        }

        /** 0: there is no meter. */
        long meterTicks() {
            return meterLower > 0 ? (long) meterNumber * (WHOLE / meterLower) : 0;
        }

        boolean isThreefoldMeter() {
            return meterLower == 8 && (meterNumber == 6 || meterNumber == 9 || meterNumber == 12);
        }

        void takeMeter(Text text) {
            if (text.takeWord("none")) {
                setMeter(0, 0);
            } else if (text.takeWord("C|")) {
                setMeter(2, 2);
            } else if (text.takeByte('C')) {
                setMeter(4, 4);
            } else {
                int number = text.takeNumber(1, 32);
                text.need('/');
                setMeter(number, text.takePower(32));
            }
        }

        private void setMeter(int number, int lower) {
            meterNumber = number;
            meterLower = lower;
        }

        void takeUnit(Text text) {
            text.need('1');
            text.need('/');
            unit = text.takePower(PART_MOST);
        }

        void fillUnit() {
            if (unit == 0) {
                unit = meterNumber > 0 && 4 * meterNumber < 3 * meterLower ? 16 : 8;
            }
        }

        void takeKey(Text text) {
            signs = 0;
            if (text.takeWord("none")) {
                return;
            }
            int first = text.at;
            int letter = text.peek() - 'A';
            if (letter < 0 || letter >= KEY_SIGNS.length) {
                text.refuse(UNREADABLE, first);
                return;
            }
            text.at++;
            signs = KEY_SIGNS[letter];
            if (text.takeByte('#')) {
                signs += 7;
            } else if (text.takeByte('b')) {
                signs -= 7;
            }
            signs += takeMode(text);
            if (Math.abs(signs) > 7) {
                text.refuse(TOO_MANY_SIGNS, first);
            }
        }

        private static int takeMode(Text text) {
            if (text.takeWord("maj") || text.takeWord("ion")) {
                return 0;
            }
            if (text.takeWord("dor")) {
                return -2;
            }
            if (text.takeWord("phr")) {
                return -4;
            }
            if (text.takeWord("lyd")) {
                return 1;
            }
            if (text.takeWord("mix")) {
                return -1;
            }
            if (text.takeWord("loc")) {
                return -5;
            }
            // The lone m stands last: it begins other words, too.
            return text.takeWord("min") || text.takeWord("aeo") || text.takeByte('m') ? -3 : 0;
        }
    }

    /** The lines ahead of MUSIC, in their order. */
    private static final class Heads {
        final Setting setting = new Setting();
        final int[] titleFirsts = new int[TITLES_MOST];
        final int[] titleStops = new int[TITLES_MOST];
        int number;
        int titles;
        int tempo;
        boolean meterTold;
        boolean complete;

        void clear() {
            number = 0;
            titles = 0;
            tempo = 0;
            meterTold = false;
            complete = false;
            setting.signs = 0;
            setting.meterNumber = 0;
            setting.meterLower = 0;
            setting.unit = 0;
        }

        void takeLine(Text text) {
            int letter = text.fieldLetter();
            if (!mayCome(letter)) {
                text.refuse(UNREADABLE, text.lineStart);
                return;
            }
            text.at += 2;
            text.skipBlanks();
            takeValue(letter, text);
            if (text.at < text.lineStop) {
                text.refuse(UNREADABLE, text.at);
            }
        }

        private boolean mayCome(int letter) {
            switch (letter) {
                case 'X': return number == 0;
                case 'T': return number > 0 && titles < TITLES_MOST && !isBehindTitles();
                case 'M': return titles > 0 && !meterTold;
                case 'L': return titles > 0 && setting.unit == 0;
                case 'Q': return titles > 0 && tempo == 0;
                case 'K': return titles > 0;
                default: return false;
            }
        }

        private boolean isBehindTitles() {
            return meterTold || setting.unit > 0 || tempo > 0;
        }

        private void takeValue(int letter, Text text) {
            switch (letter) {
                case 'X':
                    number = text.takeNumber(1, 9999);
                    break;
                case 'T':
                    takeTitle(text);
                    break;
                case 'M':
                    setting.takeMeter(text);
                    meterTold = true;
                    break;
                case 'L':
                    setting.takeUnit(text);
                    break;
                case 'Q':
                    tempo = text.takeNumber(1, 999);
                    break;
                default:
                    setting.takeKey(text);
                    setting.fillUnit();
                    complete = true;
                    break;
            }
        }

        private void takeTitle(Text text) {
            if (titles < TITLES_MOST) {
                titleFirsts[titles] = text.at;
                titleStops[titles] = text.lineStop;
                titles++;
            }
            text.at = text.lineStop;
        }
    }

    /** The THINGS as they come, and how a NOTE of them is written alone. */
    private static final class Row {
        /** Two of a sign, a letter, six of an octave and 64/64 are fewer. */
        static final int SPELLED_MOST = 20;

        private final int[] cells = new int[THINGS_MOST * CELLS];
        private final long[] ticks = new long[THINGS_MOST];
        private final long[] starts = new long[THINGS_MOST];
        private final int[] units = new int[THINGS_MOST];
        private final int[] signsWithout = new int[THINGS_MOST];
        int count;
        final char[] spelling = new char[SPELLED_MOST];
        int spelled;

        void clear() {
            count = 0;
        }

        boolean isFull() {
            return count >= THINGS_MOST;
        }

        boolean has(int i) {
            return i >= 0 && i < count && i < THINGS_MOST;
        }

        /** Its number in the row; the caller has looked whether there is room. */
        int add(int sort, Voice voice, int place) {
            int i = count;
            if (isFull()) {
                return i;
            }
            count++;
            for (int what = 0; what < CELLS; what++) {
                cells[i * CELLS + what] = 0;
            }
            ticks[i] = 0;
            starts[i] = voice.clock;
            units[i] = voice.setting.unit;
            signsWithout[i] = 0;
            put(i, SORT, sort);
            put(i, VOICE, voice.number);
            put(i, MEASURE, voice.measureAtHand());
            put(i, PLACE, place);
            return i;
        }

        int cell(int i, int what) {
            return i >= 0 && i < count && i < THINGS_MOST && what >= 0 && what < CELLS
                    ? cells[i * CELLS + what] : 0;
        }

        void put(int i, int what, int value) {
            if (i >= 0 && i < count && i < THINGS_MOST && what >= 0 && what < CELLS) {
                cells[i * CELLS + what] = value;
            }
        }

        long ticksOf(int i) {
            return has(i) ? ticks[i] : 0;
        }

        void putTicks(int i, long value) {
            if (has(i)) {
                ticks[i] = value;
            }
        }

        long startOf(int i) {
            return has(i) ? starts[i] : 0;
        }

        void putSign(int i, int sign, int without) {
            if (has(i)) {
                put(i, SIGN, sign == NO_SIGN ? without : sign);
                put(i, SIGNED, sign == NO_SIGN ? 0 : 1);
                signsWithout[i] = without;
            }
        }

        /** The SIGN of the first note among these that has the letter and octave, or NO_SIGN. */
        int signAmong(int first, int many, int letter, int octave) {
            for (int i = first; i < first + many; i++) {
                if (cell(i, LETTER) == letter && cell(i, OCTAVE) == octave) {
                    return cell(i, SIGN);
                }
            }
            return NO_SIGN;
        }

        /** Whether the THING is a NOTE whose length can be written; then spelling tells it. */
        boolean spell(int i) {
            spelled = 0;
            if (!has(i) || cell(i, SORT) != NOTE) {
                return false;
            }
            long number = ticks[i] * units[i];
            long common = greatestDivisor(number, WHOLE);
            if (common <= 0) {
                return false;
            }
            long above = number / common;
            long below = WHOLE / common;
            if (above > PART_MOST || below > PART_MOST || Long.bitCount(below) != 1) {
                return false;
            }
            if (signsWithout[i] != cell(i, SIGN)) {
                spellSign(cell(i, SIGN));
            }
            spellLetter(cell(i, LETTER), cell(i, OCTAVE));
            spellLength((int) above, (int) below);
            return true;
        }

        private static long greatestDivisor(long a, long b) {
            long more = a;
            long less = b;
            for (int steps = 0; steps < STEPS_MOST && less != 0; steps++) {
                long rest = more % less;
                more = less;
                less = rest;
            }
            return more;
        }

        private void spellByte(int b) {
            if (spelled < SPELLED_MOST) {
                spelling[spelled] = (char) b;
                spelled++;
            }
        }

        private void spellSign(int sign) {
            if (sign == 0) {
                spellByte('=');
            }
            for (int k = 0; k < sign; k++) {
                spellByte('^');
            }
            for (int k = 0; k > sign; k--) {
                spellByte('_');
            }
        }

        private void spellLetter(int letter, int octave) {
            int upper = 'A' + (letter + 2) % LETTERS;
            spellByte(octave > 4 ? upper + 'a' - 'A' : upper);
            for (int k = 5; k < octave; k++) {
                spellByte('\'');
            }
            for (int k = 4; k > octave; k--) {
                spellByte(',');
            }
        }

        private void spellLength(int above, int below) {
            if (above != 1) {
                spellNumber(above);
            }
            if (below != 1) {
                spellByte('/');
                if (below != 2) {
                    spellNumber(below);
                }
            }
        }

        private void spellNumber(int number) {
            if (number >= 10) {
                spellByte('0' + number / 10);
            }
            spellByte('0' + number % 10);
        }
    }

    /** What each VOICE has as its own. */
    private static final class Voice {
        final int number;
        final Setting setting = new Setting();
        final long[] measureTimes = new long[MEASURES_MOST];
        final long[] measureMeters = new long[MEASURES_MOST];
        int count;
        boolean open;
        long clock;
        /** A sign counts while signBars has the number of the bar at hand: nothing need be wiped. */
        private final int[] signs = new int[LETTERS * OCTAVES];
        private final int[] signBars = new int[LETTERS * OCTAVES];
        private int bar;
        /** The notes that are tied to the next timed. */
        int tiedFirst;
        int tiedMany;

        Voice(int number) {
            this.number = number;
        }

        void clear(Setting first) {
            setting.copyFrom(first);
            count = 0;
            open = false;
            clock = 0;
            tiedMany = 0;
            forgetSigns();
        }

        void forgetSigns() {
            bar++;
        }

        int measureAtHand() {
            return open ? count - 1 : count;
        }

        /** Whether a timed can stand here: there is a MEASURE for it. */
        boolean beginMeasure() {
            if (open) {
                return true;
            }
            if (count >= MEASURES_MOST) {
                return false;
            }
            measureTimes[count] = 0;
            measureMeters[count] = setting.meterTicks();
            count++;
            open = true;
            return true;
        }

        void passTime(long ticks) {
            clock += ticks;
            int measure = count - 1;
            if (measure >= 0 && measure < MEASURES_MOST) {
                measureTimes[measure] += ticks;
            }
        }

        int keySign(int letter) {
            if (letter < 0 || letter >= LETTERS) {
                return 0;
            }
            if (SHARP_RANKS[letter] < setting.signs) {
                return 1;
            }
            return LETTERS - 1 - SHARP_RANKS[letter] < -setting.signs ? -1 : 0;
        }

        /** The sign that stands in the bar for this spot, or else that of the KEY. */
        int barSign(int letter, int spot) {
            if (spot >= 0 && spot < signs.length && signBars[spot] == bar) {
                return signs[spot];
            }
            return keySign(letter);
        }

        void putSign(int spot, int sign) {
            if (spot >= 0 && spot < signs.length) {
                signs[spot] = sign;
                signBars[spot] = bar;
            }
        }
    }

    /** What the BARS of VOICE 1 tell between its MEASURES, and the order of those PLAYED. */
    private static final class Plan {
        private static final int START = 1, BACK = 2, END = 4;

        /** By the MEASURE that they stand before. */
        private final int[] marks = new int[MEASURES_MOST + 1];
        private final int[] endings = new int[MEASURES_MOST + 1];
        final int[] order = new int[PLAYED_MOST];
        int told;

        void clear() {
            told = 0;
            for (int m = 0; m <= MEASURES_MOST; m++) {
                marks[m] = 0;
                endings[m] = 0;
            }
        }

        void putBar(int measure, int kind, int ending) {
            if (measure < 0 || measure > MEASURES_MOST) {
                return;
            }
            if (kind == REPEAT_BEGINS || kind == REPEAT_BOTH) {
                marks[measure] |= START;
            }
            if (kind == REPEAT_ENDS || kind == REPEAT_BOTH) {
                marks[measure] |= BACK;
            }
            if (kind != SINGLE || ending > 0) {
                marks[measure] |= END;
            }
            if (ending > 0) {
                endings[measure] = ending;
            }
        }

        private boolean isMarked(int measure, int mark) {
            return measure >= 0 && measure <= MEASURES_MOST && (marks[measure] & mark) != 0;
        }

        void play(int measures) {
            int many = Math.min(measures, MEASURES_MOST);
            int m = 0;
            int beginning = 0;
            boolean again = false;
            boolean inside = false;
            boolean wentBack = false;
            told = 0;
            for (int steps = 0; steps < STEPS_MOST && m < many && told < PLAYED_MOST; steps++) {
                if (!wentBack && isMarked(m, START)) {
                    beginning = m;
                    again = false;
                }
                wentBack = false;
                if (endings[m] > 0 && (endings[m] == 1) == again) {
                    m = behindNextEnd(m, many);
                    inside = false;
                    continue;
                }
                inside = inside || endings[m] > 0;
                order[told] = m;
                told++;
                if (isMarked(m + 1, BACK)) {
                    inside = false;
                    wentBack = !again;
                    again = !again;
                    beginning = wentBack ? beginning : m + 1;
                    m = beginning;
                } else {
                    if (isMarked(m + 1, END)) {
                        beginning = again && inside ? m + 1 : beginning;
                        again = again && !inside;
                        inside = false;
                    }
                    m++;
                }
            }
        }

        private int behindNextEnd(int measure, int many) {
            int m = measure + 1;
            while (m < many && !isMarked(m, END)) {
                m++;
            }
            return m;
        }
    }

    /** A length as it is written: number over lower. */
    private static final class Length {
        int number;
        int lower;

        void setOne() {
            number = 1;
            lower = 1;
        }

        void take(Text text) {
            setOne();
            boolean numbered = text.atDigit();
            if (numbered) {
                number = text.takeNumber(1, PART_MOST);
            }
            if (!text.takeByte('/')) {
                return;
            }
            if (text.atDigit()) {
                lower = text.takePower(PART_MOST);
                return;
            }
            lower = 2;
            while (!numbered && lower < PART_MOST && text.takeByte('/')) {
                lower *= 2;
            }
            if (!numbered && text.peek() == '/') {
                text.refuse(UNREADABLE, text.at);
            }
        }
    }

    /** What TUPLETS and broken rhythm make of the next timed. */
    private static final class Pace {
        int tupletLeft;
        private int tupletNumber;
        private int tupletLower;
        private int brokenNumber;
        private int brokenLower;

        void clear() {
            tupletLeft = 0;
            setBroken(1, 1);
        }

        void setTuplet(int number, int lower, int many) {
            tupletNumber = number;
            tupletLower = lower;
            tupletLeft = many;
        }

        void setBroken(int number, int lower) {
            brokenNumber = number;
            brokenLower = lower;
        }

        /** 0: it is no whole number of TICKS, or too many. */
        long ticksOf(int unit, long number, long lower) {
            if (unit <= 0) {
                return 0;
            }
            long above = WHOLE / unit * number * brokenNumber;
            long below = lower * brokenLower;
            if (tupletLeft > 0) {
                above *= tupletNumber;
                below *= tupletLower;
            }
            return wholeTicks(above, below);
        }

        static long wholeTicks(long above, long below) {
            if (below <= 0 || above % below != 0) {
                return 0;
            }
            long ticks = above / below;
            return ticks > LONGEST ? 0 : ticks;
        }

        void passTimed() {
            if (tupletLeft > 0) {
                tupletLeft--;
            }
            setBroken(1, 1);
        }
    }

    /** Reads MUSIC, one item after the other, to the row. */
    private static final class Music {
        private final Text text;
        private final Row row;
        private final Plan plan;
        private final boolean octavesApart;
        final Voice[] voices = {new Voice(1), new Voice(2), new Voice(3)};
        private Voice voice;
        int greatestVoice;
        private final Pace pace = new Pace();
        private final Length told = new Length();
        private final int[] ownNumbers = new int[CHORD_MOST];
        private final int[] ownLowers = new int[CHORD_MOST];
        /** What waits for the next timed. */
        private int ornaments;
        private int words;
        private int slursBegun;
        private int slursOpen;
        /** The latest timed of all VOICES, and whether blanks alone stand behind it in the line. */
        private int latestFirst;
        private int latestMany;
        private boolean rightBehindTimed;

        Music(Text text, Row row, Plan plan, boolean octavesApart) {
            this.text = text;
            this.row = row;
            this.plan = plan;
            this.octavesApart = octavesApart;
            voice = voices[0];
        }

        void clear(Setting first) {
            for (int v = 0; v < voices.length; v++) {
                voices[v].clear(first);
            }
            voice = voices[0];
            greatestVoice = 1;
            pace.clear();
            ornaments = 0;
            words = 0;
            slursBegun = 0;
            slursOpen = 0;
            latestFirst = 0;
            latestMany = 0;
            rightBehindTimed = false;
        }

        boolean isUnfinished() {
            return pace.tupletLeft > 0 || slursOpen > 0;
        }

        void beginLine() {
            rightBehindTimed = false;
            int letter = text.fieldLetter();
            if (letter == 0) {
                return;
            }
            if (!isChangeLetter(letter)) {
                text.refuse(UNREADABLE, text.lineStart);
                return;
            }
            text.at += 2;
            takeChange(letter, text.lineStart);
            if (text.at < text.lineStop) {
                text.refuse(UNREADABLE, text.at);
            }
        }

        private static boolean isChangeLetter(int letter) {
            return letter == 'V' || letter == 'M' || letter == 'L' || letter == 'K';
        }

        void readItem() {
            int first = text.peek();
            if (first == ' ') {
                text.at++;
                return;
            }
            boolean behindTimed = rightBehindTimed;
            rightBehindTimed = false;
            if (text.atNote()) {
                readSingle();
                return;
            }
            switch (first) {
                case '>':
                case '<':
                    readBroken(first, behindTimed);
                    break;
                case '[':
                    readBracket();
                    break;
                case '|':
                case ':':
                    readBar();
                    break;
                case '(':
                    readOpening();
                    break;
                case ')':
                    readSlurEnd();
                    break;
                case '{':
                    readGraces();
                    break;
                case '"':
                    readWord();
                    break;
                case '!':
                    readName();
                    break;
                case 'Z':
                    readBars();
                    break;
                case 'z':
                case 'x':
                    readRest(first == 'z' ? REST : HIDDEN);
                    break;
                default:
                    readOrnament(first);
                    break;
            }
        }

        private void readOrnament(int first) {
            int ornament = ORNAMENT_BYTES.indexOf((char) first);
            if (ornament < 0) {
                text.refuse(UNREADABLE, text.at);
                return;
            }
            ornaments |= 1 << ornament;
            text.at++;
        }

        private void readBracket() {
            if (atBracketBar()) {
                readBar();
            } else if (atBracketChange()) {
                int first = text.at;
                int letter = text.ahead(1);
                text.at += 3;
                takeChange(letter, first);
                text.skipBlanks();
                text.need(']');
            } else {
                readChord();
            }
        }

        private boolean atBracketBar() {
            int next = text.ahead(1);
            return next == '|' || next >= '1' && next <= '4';
        }

        private boolean atBracketChange() {
            return isChangeLetter(text.ahead(1)) && text.ahead(2) == ':';
        }

        /** What is told behind the colon; a VOICE is no THING. */
        private void takeChange(int letter, int place) {
            text.skipBlanks();
            if (letter == 'V') {
                takeVoice();
                return;
            }
            Setting setting = voice.setting;
            if (letter == 'M') {
                setting.takeMeter(text);
                addChange(METER, place, setting.meterNumber, setting.meterLower);
            } else if (letter == 'L') {
                setting.takeUnit(text);
                addChange(UNIT, place, setting.unit, 0);
            } else {
                setting.takeKey(text);
                addChange(KEY, place, setting.signs, 0);
            }
        }

        private void takeVoice() {
            int number = text.takeNumber(1, VOICES_MOST);
            if (number >= 1 && number <= voices.length) {
                voice = voices[number - 1];
                greatestVoice = Math.max(greatestVoice, number);
            }
        }

        private void addChange(int sort, int place, int value, int lower) {
            if (row.isFull()) {
                text.refuse(TOO_MANY, place);
                return;
            }
            int i = row.add(sort, voice, place);
            row.put(i, VALUE, value);
            row.put(i, LETTER, lower);
        }

        /** The kind of the longest bar that is here, or -1. */
        private int barKind() {
            int next = text.ahead(1);
            switch (text.peek()) {
                case '|':
                    return next == '|' ? DOUBLE : next == ']' ? CLOSING
                            : next == ':' ? REPEAT_BEGINS : SINGLE;
                case '[':
                    return next == '|' ? OPENING : ENDING_ALONE;
                default:
                    return next == '|' ? REPEAT_ENDS : next == ':' ? REPEAT_BOTH : -1;
            }
        }

        private void readBar() {
            int place = text.at;
            int kind = barKind();
            if (kind < 0) {
                text.refuse(UNREADABLE, place);
                return;
            }
            if (row.isFull()) {
                text.refuse(TOO_MANY, place);
                return;
            }
            text.at += kind == SINGLE || kind == ENDING_ALONE ? 1 : 2;
            boolean mayEnd = kind == SINGLE || kind == REPEAT_ENDS || kind == ENDING_ALONE;
            int ending = mayEnd ? text.takeDigit(1, 4) : 0;
            int i = row.add(BAR, voice, place);
            row.put(i, VALUE, kind);
            row.put(i, ENDING, ending);
            voice.open = false;
            voice.forgetSigns();
            if (voice.number == 1) {
                plan.putBar(voice.count, kind, ending);
            }
        }

        private void readOpening() {
            int next = text.ahead(1);
            if (next >= '0' && next <= '9') {
                readTuplet(next - '0');
            } else if (slursOpen >= SLURS_MOST) {
                text.refuse(MISPLACED, text.at);
            } else {
                slursOpen++;
                slursBegun++;
                text.at++;
            }
        }

        private void readTuplet(int p) {
            if (p < 2) {
                text.refuse(UNREADABLE, text.at + 1);
                return;
            }
            if (pace.tupletLeft > 0) {
                text.refuse(MISPLACED, text.at);
                return;
            }
            text.at += 2;
            int q = 0;
            int r = 0;
            if (text.takeByte(':')) {
                q = text.takeDigit(1, 9);
                if (text.takeByte(':')) {
                    r = text.takeDigit(1, 9);
                }
            }
            pace.setTuplet(q > 0 ? q : usualShare(p), p, r > 0 ? r : p);
        }

        private int usualShare(int p) {
            switch (p) {
                case 3:
                case 6:
                    return 2;
                case 2:
                case 4:
                case 8:
                    return 3;
                default:
                    return voice.setting.isThreefoldMeter() ? 3 : 2;
            }
        }

        private void readSlurEnd() {
            if (slursOpen <= 0) {
                text.refuse(MISPLACED, text.at);
                return;
            }
            slursOpen--;
            text.at++;
            if (latestMany > 0) {
                row.put(latestFirst, SLURS_ENDED, row.cell(latestFirst, SLURS_ENDED) + 1);
            }
        }

        private void readWord() {
            text.at++;
            for (int k = 0; k < WORD_MOST && text.at < text.lineStop && text.peek() != '"'; k++) {
                text.at++;
            }
            text.need('"');
            words++;
        }

        private void readName() {
            text.at++;
            int first = text.at;
            for (int k = 0; k < NAME_MOST && text.atLetter(); k++) {
                text.at++;
            }
            if (text.at == first) {
                text.refuse(UNREADABLE, first);
            }
            text.need('!');
            words++;
        }

        private void readBroken(int sign, boolean behindTimed) {
            if (!behindTimed) {
                text.refuse(MISPLACED, text.at);
                return;
            }
            int lower = 1;
            for (int k = 0; k < 3 && text.takeByte(sign); k++) {
                lower *= 2;
            }
            text.skipBlanks();
            if (!atTimed()) {
                text.refuse(MISPLACED, text.at);
                return;
            }
            int more = 2 * lower - 1;
            stretchLatest(sign == '>' ? more : 1, lower);
            pace.setBroken(sign == '>' ? 1 : more, lower);
        }

        private boolean atTimed() {
            int b = text.peek();
            if (b == '[') {
                return !atBracketBar() && !atBracketChange();
            }
            return b == 'z' || b == 'x' || text.atNote();
        }

        private void stretchLatest(int number, int lower) {
            long before = row.ticksOf(latestFirst);
            for (int i = latestFirst; i < latestFirst + latestMany; i++) {
                long ticks = Pace.wholeTicks(row.ticksOf(i) * number, lower);
                if (ticks <= 0) {
                    text.refuse(OUT_OF_RANGE, row.cell(i, PLACE));
                }
                row.putTicks(i, ticks);
            }
            voice.passTime(row.ticksOf(latestFirst) - before);
        }

        /** Whether the timed or Z that begins here has a MEASURE to stand in. */
        private boolean beginMeasure() {
            if (voice.beginMeasure()) {
                return true;
            }
            text.refuse(TOO_MANY, text.at);
            return false;
        }

        private void readSingle() {
            if (!beginMeasure()) {
                return;
            }
            int first = row.count;
            readNote(NOTE);
            setOwnLength(0, 1, 1);
            told.take(text);
            boolean tied = text.takeByte('-');
            finishTimed(first, 1, tied);
        }

        private void readRest(int sort) {
            if (!beginMeasure()) {
                return;
            }
            if (row.isFull()) {
                text.refuse(TOO_MANY, text.at);
                return;
            }
            int i = row.add(sort, voice, text.at);
            text.at++;
            setOwnLength(0, 1, 1);
            told.take(text);
            finishTimed(i, 1, false);
        }

        private void readChord() {
            if (!beginMeasure()) {
                return;
            }
            int first = row.count;
            text.at++;
            int many = 0;
            while (many < CHORD_MOST && text.fault == 0 && (many == 0 || text.peek() != ']')) {
                readNote(NOTE);
                told.take(text);
                setOwnLength(many, told.number, told.lower);
                many++;
            }
            if (text.atNote()) {
                text.refuse(TOO_MANY, text.at);
            }
            text.need(']');
            told.take(text);
            boolean tied = text.takeByte('-');
            finishTimed(first, many, tied);
        }

        private void setOwnLength(int k, int number, int lower) {
            if (k >= 0 && k < CHORD_MOST) {
                ownNumbers[k] = number;
                ownLowers[k] = lower;
            }
        }

        private void readGraces() {
            text.at++;
            int many = 0;
            while (many < GRACES_MOST && text.fault == 0 && (many == 0 || text.peek() != '}')) {
                readNote(GRACE);
                told.take(text);
                many++;
            }
            if (text.atNote()) {
                text.refuse(TOO_MANY, text.at);
            }
            text.need('}');
        }

        /** A note up to its octave. */
        private void readNote(int sort) {
            int place = text.at;
            int sign = text.takeSign();
            if (!text.atNoteLetter()) {
                text.refuse(UNREADABLE, text.at);
                return;
            }
            int b = text.peek();
            int octave = b >= 'a' ? 5 : 4;
            int letter = (b - (b >= 'a' ? 'a' : 'A') + 5) % LETTERS;
            text.at++;
            octave += takeOctaveMarks();
            if (row.isFull()) {
                text.refuse(TOO_MANY, place);
                return;
            }
            int i = row.add(sort, voice, place);
            row.put(i, LETTER, letter);
            row.put(i, OCTAVE, octave);
            row.put(i, CHORD, 1);
            int spot = signSpot(letter, octave);
            row.putSign(i, sign, signWithout(letter, octave, spot, sort == GRACE));
            if (sign != NO_SIGN) {
                voice.putSign(spot, sign);
            }
            int pitch = 12 * (octave + 1) + LETTER_PITCHES[letter] + row.cell(i, SIGN);
            row.put(i, VALUE, pitch);
            if (pitch < 0 || pitch > 127) {
                text.refuse(OUT_OF_RANGE, place);
            }
        }

        private int takeOctaveMarks() {
            int octaves = 0;
            for (int k = 0; k < TEXT_MOST; k++) {
                if (text.takeByte('\'')) {
                    octaves++;
                } else if (text.takeByte(',')) {
                    octaves--;
                } else {
                    break;
                }
            }
            return octaves;
        }

        /** Where a VOICE keeps the sign: RULE 0 keeps all octaves of a letter together. */
        private int signSpot(int letter, int octave) {
            if (octave < LOWEST_OCTAVE || octave >= LOWEST_OCTAVE + OCTAVES) {
                return -1;
            }
            return octavesApart ? (octave - LOWEST_OCTAVE) * LETTERS + letter : letter;
        }

        /** The SIGN of a note if none is written; a tie goes ahead of the bar. */
        private int signWithout(int letter, int octave, int spot, boolean grace) {
            int tied = grace ? NO_SIGN
                    : row.signAmong(voice.tiedFirst, voice.tiedMany, letter, octave);
            return tied == NO_SIGN ? voice.barSign(letter, spot) : tied;
        }

        /** All of the timed was read: its times, and what waited for it. */
        private void finishTimed(int first, int many, boolean tied) {
            for (int k = 0; k < many && k < CHORD_MOST && text.fault == 0; k++) {
                int i = first + k;
                long ticks = pace.ticksOf(voice.setting.unit,
                        (long) ownNumbers[k] * told.number, (long) ownLowers[k] * told.lower);
                if (ticks <= 0) {
                    text.refuse(OUT_OF_RANGE, row.cell(i, PLACE));
                }
                row.putTicks(i, ticks);
                if (row.cell(i, SORT) == NOTE) {
                    row.put(i, TIE, tied ? 1 : 0);
                    row.put(i, CHORD, many);
                    row.put(i, SPOT, k);
                }
            }
            voice.passTime(row.ticksOf(first));
            voice.tiedFirst = first;
            voice.tiedMany = tied ? many : 0;
            latestFirst = first;
            latestMany = many;
            rightBehindTimed = true;
            pace.passTimed();
            bestowWaiting(first);
        }

        private void bestowWaiting(int first) {
            row.put(first, ORNAMENTS, ornaments);
            row.put(first, WORDS, words);
            row.put(first, SLURS_BEGUN, slursBegun);
            ornaments = 0;
            words = 0;
            slursBegun = 0;
        }

        private void readBars() {
            int place = text.at;
            if (!beginMeasure()) {
                return;
            }
            long meter = voice.setting.meterTicks();
            if (meter == 0) {
                text.refuse(UNREADABLE, place);
            } else if (row.isFull()) {
                text.refuse(TOO_MANY, place);
            }
            text.at++;
            int many = text.atDigit() ? text.takeNumber(1, 16) : 1;
            if (text.fault == 0 && voice.count + many - 1 > MEASURES_MOST) {
                text.refuse(TOO_MANY, place);
            }
            if (text.fault != 0) {
                return;
            }
            int i = row.add(BARS, voice, place);
            row.put(i, VALUE, many);
            row.putTicks(i, many * meter);
            for (int k = 0; k < many && voice.beginMeasure(); k++) {
                voice.passTime(meter);
                voice.open = k == many - 1;
            }
            voice.forgetSigns();
            voice.tiedMany = 0;
        }
    }
}
