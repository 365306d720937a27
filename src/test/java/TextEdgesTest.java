/**
 * Each sentence of the document that names an edge of the input buffer or of the setup text, with
 * a test of its own: promises 2 to 4, and 'Setup text'.
 */
final class TextEdgesTest {
    private static final int SYNTAX = TemperingLine.SYNTAX_ERROR;
    private static final int RANGE = TemperingLine.OUT_OF_RANGE;
    private static final int MANY = TemperingLine.TOO_MANY;
    private static final int DEEP = TemperingLine.TOO_DEEP;
    private static final int NONE = -1;
    private static final int BLANKS = 0x20202020;
    private static final String HEAD = "line 1 0;";
    private static final String ZONE = "zone 100 1 1 20 20;";
    private static final String LINE = HEAD + ZONE;

    public static void main(String[] args) {
        bufferHolds700Bytes();
        refusedAppendLeavesTheBuffer();
        mostSignificantByteFirst();
        fullBufferIsRead();
        lengthIsZeroToTheBuffers();
        refusedLoadLeavesTheBuffer();
        refusedLoadLeavesTheErrorOffset();
        bufferIsEmptyAfterLoad();
        onlyTheFirstBytesAreRead();
        emptyText();
        offsetWithoutAnError();
        offsetOfTheLatestLoad();
        errorLeavesAllOtherData();
        errorBeforeTheFirstLine();
        loadWithoutSheetsAndClock();
        heatOfTheFormerText();
        zonesAtMostSix();
        atLeastOneZone();
        quenchTime();
        learningStep();
        setpoint();
        power();
        capacity();
        lowerLimit();
        upperLimit();
        upperLimitNotLess();
        bandThickness();
        bandLow();
        bandHigh();
        bandHighNotLess();
        laterBandReplaces();
        factor();
        numbersOfAnyLength();
        leadingZeros();
        longestRuns();
        similarWords();
        spaces();
        noOtherByteSeparates();
        heatMayOccurOnce();
        fourParentheses();
        textEndsTooEarly();
        tokenNotAllowed();
        smallestOffsetCounts();
        syntaxBeforeRange();
        syntaxBeforeDeep();
        syntaxBeforeMany();
        Due.report();
    }

    private static int blanks(TemperingLine x) {
        return x.append(BLANKS, BLANKS, BLANKS, BLANKS, BLANKS);
    }

    /** What load answers to the text, and the error's offset, on a new object. */
    private static void reads(String text, int answer, int offset) {
        TemperingLine x = new TemperingLine();
        Due.is("load of " + text, Due.load(x, text), answer);
        Due.is("errorOffset() after " + text, x.errorOffset(), offset);
        Due.is("zoneCount() after " + text, x.zoneCount(), answer < 0 ? 0 : answer);
    }

    private static void good(String text, int zones) {
        reads(text, zones, NONE);
    }

    /** In place of the sign %, each number from low to high is allowed, and none beyond. */
    private static void range(String text, int low, int high) {
        int at = text.indexOf('%');
        if (low > 0) {
            reads(text.replace("%", "" + (low - 1)), RANGE, at);
        }
        good(text.replace("%", "" + low), 1);
        good(text.replace("%", "" + high), 1);
        reads(text.replace("%", "" + (high + 1)), RANGE, at);
    }

    /** "Returns the new length of the buffer; -1 if it would exceed 700 bytes". */
    private static void bufferHolds700Bytes() {
        TemperingLine x = new TemperingLine();
        for (int length = 20; length <= 700; length += 20) {
            Due.is("append up to " + length, blanks(x), length);
        }
        Due.is("append beyond 700", blanks(x), -1);
        Due.is("append beyond 700, again", blanks(x), -1);
    }

    /** "and the buffer is unchanged then". */
    private static void refusedAppendLeavesTheBuffer() {
        TemperingLine x = new TemperingLine();
        Due.append(x, LINE + " ".repeat(672));
        Due.is("append to the full buffer", x.append(-1, -1, -1, -1, -1), -1);
        Due.argument("load(701)", () -> x.load(701));
        Due.is("load(700)", x.load(700), 1);
    }

    /** "the 4 bytes of each argument, the most significant byte first". */
    private static void mostSignificantByteFirst() {
        TemperingLine x = new TemperingLine();
        x.append('l' << 24 | 'i' << 16 | 'n' << 8 | 'e', '1' << 24 | ' ' << 16 | '0' << 8 | ';',
                'z' << 24 | 'o' << 16 | 'n' << 8 | 'e', '1' << 24 | '0' << 16 | '0' << 8 | ' ',
                '2' << 24 | ' ' << 16 | '3' << 8 | ' ');
        x.append('4' << 24 | '0' << 16 | ' ' << 8 | '5', '0' << 24 | ';' << 16, 0, -1, 0x80808080);
        Due.is("load(26)", x.load(26), 1);
        Due.is("zone(0, 0)", x.zone(0, 0), 100);
        Due.is("zone(0, 1)", x.zone(0, 1), 2);
        Due.is("zone(0, 2)", x.zone(0, 2), 3);
        Due.is("zone(0, 3)", x.zone(0, 3), 40);
        Due.is("zone(0, 4)", x.zone(0, 4), 50);
        TemperingLine y = new TemperingLine();
        y.append(Integer.MIN_VALUE, 0, 0, 0, 0);
        Due.is("the byte 128 is no token", y.load(20), SYNTAX);
        Due.is("errorOffset()", y.errorOffset(), 0);
    }

    /** "an input buffer of at most 700 bytes": the last byte counts as any other. */
    private static void fullBufferIsRead() {
        String full = LINE + "heat " + "1+".repeat(332) + "11";
        good(full + ";", 1);
        reads(full + "x", SYNTAX, 699);
        reads(full + "1", SYNTAX, 700);
        good(HEAD + " ".repeat(700 - 28) + ZONE, 1);
    }

    /** "Throws IllegalArgumentException if length is negative or greater than the length". */
    private static void lengthIsZeroToTheBuffers() {
        TemperingLine x = new TemperingLine();
        Due.argument("load(1) of an empty buffer", () -> x.load(1));
        Due.argument("load(-1) of an empty buffer", () -> x.load(-1));
        Due.is("load(0) of an empty buffer", x.load(0), SYNTAX);
        blanks(x);
        Due.argument("load(21) of 20 bytes", () -> x.load(21));
        Due.argument("load(-1) of 20 bytes", () -> x.load(-1));
        Due.argument("load(MIN_VALUE)", () -> x.load(Integer.MIN_VALUE));
        Due.argument("load(MAX_VALUE)", () -> x.load(Integer.MAX_VALUE));
        Due.is("load(20) of 20 bytes", x.load(20), SYNTAX);
        Due.is("errorOffset()", x.errorOffset(), 20);
        blanks(x);
        Due.is("load(0) of 20 bytes", x.load(0), SYNTAX);
        Due.is("errorOffset()", x.errorOffset(), 0);
    }

    /** "the buffer is unchanged then". */
    private static void refusedLoadLeavesTheBuffer() {
        TemperingLine x = new TemperingLine();
        Due.append(x, LINE);
        Due.argument("load(41)", () -> x.load(41));
        Due.argument("load(-1)", () -> x.load(-1));
        Due.is("append", blanks(x), 60);
        Due.argument("load(61)", () -> x.load(61));
        Due.is("load(60)", x.load(60), 1);
    }

    /** "the latest call of load that did not throw". */
    private static void refusedLoadLeavesTheErrorOffset() {
        TemperingLine x = new TemperingLine();
        Due.argument("load(-1)", () -> x.load(-1));
        Due.is("errorOffset() after a call that threw", x.errorOffset(), NONE);
        Due.load(x, "line 1 21;");
        Due.argument("load(1)", () -> x.load(1));
        Due.is("errorOffset() of the call before", x.errorOffset(), 7);
    }

    /** "The input buffer is empty afterwards, also if the text has an error." */
    private static void bufferIsEmptyAfterLoad() {
        TemperingLine x = new TemperingLine();
        Due.append(x, LINE);
        Due.is("load", x.load(28), 1);
        Due.argument("load(1) after a good text", () -> x.load(1));
        Due.is("append after a good text", blanks(x), 20);
        Due.is("load", x.load(3), SYNTAX);
        Due.argument("load(1) after an error", () -> x.load(1));
        Due.is("append after an error", blanks(x), 20);
        Due.is("load", x.load(0), SYNTAX);
        Due.argument("load(1) after an empty text", () -> x.load(1));
        for (int length = 20; length <= 700; length += 20) {
            Due.is("append up to " + length, blanks(x), length);
        }
    }

    /** "Reads the first bytes of the input buffer". */
    private static void onlyTheFirstBytesAreRead() {
        TemperingLine x = new TemperingLine();
        Due.append(x, LINE + "?");
        Due.is("load(28)", x.load(28), 1);
        Due.append(x, LINE + "?");
        Due.is("load(29)", x.load(29), SYNTAX);
        Due.is("errorOffset()", x.errorOffset(), 28);
        Due.append(x, HEAD + "zone 100 1 1 20 900;");
        Due.is("load(27): 90 is cut, and the sign", x.load(27), SYNTAX);
        Due.is("errorOffset()", x.errorOffset(), 27);
        Due.append(x, LINE);
        Due.is("the bytes of a former text are not read", x.load(9), SYNTAX);
        Due.is("errorOffset()", x.errorOffset(), 9);
    }

    /** "An empty text has a SYNTAX_ERROR." */
    private static void emptyText() {
        reads("", SYNTAX, 0);
        reads(" ", SYNTAX, 1);
        reads(" ".repeat(700), SYNTAX, 700);
    }

    /** "-1 if it found none or if there was no such call". */
    private static void offsetWithoutAnError() {
        TemperingLine x = new TemperingLine();
        Due.is("errorOffset() of a new object", x.errorOffset(), NONE);
        Due.append(x, LINE);
        Due.is("errorOffset() after append", x.errorOffset(), NONE);
        x.load(28);
        Due.is("errorOffset() after a good text", x.errorOffset(), NONE);
    }

    /** "Returns the offset of the error found by the latest call of load". */
    private static void offsetOfTheLatestLoad() {
        TemperingLine x = new TemperingLine();
        x.load(0);
        Due.is("errorOffset() at the first byte", x.errorOffset(), 0);
        Due.load(x, "line 1 21;");
        Due.is("errorOffset() of the second text", x.errorOffset(), 7);
        Due.load(x, LINE);
        Due.is("errorOffset() of the good text", x.errorOffset(), NONE);
        Due.load(x, "lime");
        Due.is("errorOffset() of the last text", x.errorOffset(), 0);
        blanks(x);
        x.undo();
        Due.is("errorOffset() after append and undo", x.errorOffset(), 0);
    }

    /** "An error leaves all other data unchanged." */
    private static void errorLeavesAllOtherData() {
        String[] wrong = {"", HEAD, LINE + "x", HEAD + ZONE.repeat(7), HEAD + "heat (((((1)))));",
            "line 9 20;zone 900 99 999 900 900;band 5 900 900;heat 9;heat 1;", LINE + "band 1"};
        for (String text : wrong) {
            TemperingLine x = new TemperingLine();
            TemperingLine twin = new TemperingLine();
            Due.story(x);
            Due.story(twin);
            Due.is("load of " + text, Due.load(x, text) < 0 ? 1 : 0, 1);
            Due.alike("after " + text, x, twin, false);
        }
    }

    /** The same without a line: there is none afterwards either. */
    private static void errorBeforeTheFirstLine() {
        TemperingLine x = new TemperingLine();
        Due.load(x, LINE + "band 5 300 400;heat 5;x");
        Due.is("errorOffset()", x.errorOffset(), LINE.length() + 22);
        Due.alike("after the error", x, new TemperingLine(), false);
    }

    /** "replaces the line by what it describes, without sheets, and with the clock 0". */
    private static void loadWithoutSheetsAndClock() {
        TemperingLine x = new TemperingLine();
        Due.story(x);
        Due.load(x, LINE);
        TemperingLine fresh = Due.line(LINE);
        Due.is("clock()", x.clock(), 0);
        Due.is("sheetCount()", x.sheetCount(), 0);
        for (int state = 0; state <= 5; state++) {
            Due.is("count(" + state + ")", x.count(state), 0);
        }
        Due.index("state(0)", () -> x.state(0));
        Due.is("quenched()", x.quenched(), -1);
        Due.is("quenchLeft()", x.quenchLeft(), 0);
        Due.is("zoneCount()", x.zoneCount(), 1);
        Due.index("zone(1, 0)", () -> x.zone(1, 0));
        Due.is("zone(0, 6)", x.zone(0, 6), -1);
        Due.sameView("after load", x, fresh);
    }

    /** The heat expression is replaced too, also by none. */
    private static void heatOfTheFormerText() {
        String hot = "line 1 0;zone 220 9 999 20 900;";
        String[] texts = {"heat 1+2*3;", "heat 500;", "", "heat gap*3;", "heat 0;"};
        int[] due = {1, 100, 20, 120, 0};
        TemperingLine x = new TemperingLine();
        for (int i = 0; i < texts.length; i++) {
            Due.load(x, hot + texts[i]);
            Due.load(x, hot + "heat 1000;x");
            Due.add(x, 4);
            x.run(2);
            Due.is("temperature(0) after " + texts[i], x.temperature(0), 20 + due[i]);
        }
    }

    /** "There are at most 6 zones"; "a zone beyond, at the first letter of its statement". */
    private static void zonesAtMostSix() {
        for (int zones = 1; zones <= 6; zones++) {
            good(HEAD + ZONE.repeat(zones), zones);
        }
        reads(HEAD + ZONE.repeat(7), MANY, 9 + 6 * 19);
        reads(HEAD + ZONE.repeat(6) + "heat 1;  zone", MANY, 9 + 6 * 19 + 9);
        reads(HEAD + ZONE.repeat(6) + "zone;", MANY, 9 + 6 * 19);
        TemperingLine six = Due.line(HEAD + ZONE.repeat(5) + "zone 900 9 8 30 40;");
        Due.is("zone(5, 0)", six.zone(5, 0), 900);
        Due.is("zone(5, 4)", six.zone(5, 4), 40);
        Due.is("zone(4, 0)", six.zone(4, 0), 100);
    }

    /** "There must be at least one zone": the end of the text, if there is none. */
    private static void atLeastOneZone() {
        reads(HEAD, SYNTAX, 9);
        reads(HEAD + "  ", SYNTAX, 11);
        reads(HEAD + "heat 1;band 2 20 20;", SYNTAX, 29);
        good(HEAD + "heat 1;band 2 20 20;" + ZONE, 1);
    }

    /** "the quench time (1 to 9)". */
    private static void quenchTime() {
        range("line % 0;" + ZONE, 1, 9);
    }

    /** "the learning step (0 to 20)". */
    private static void learningStep() {
        range("line 1 %;" + ZONE, 0, 20);
    }

    /** "a setpoint (100 to 900)". */
    private static void setpoint() {
        range(HEAD + "zone % 1 1 20 20;", 100, 900);
    }

    /** "a power (1 to 99)". */
    private static void power() {
        range(HEAD + "zone 100 % 1 20 20;", 1, 99);
    }

    /** "a capacity (1 to 999)". */
    private static void capacity() {
        range(HEAD + "zone 100 1 % 20 20;", 1, 999);
    }

    /** "a lower and an upper limit of its window (20 to 900 each". */
    private static void lowerLimit() {
        range(HEAD + "zone 100 1 1 % 900;", 20, 900);
    }

    /** The same of the upper one. */
    private static void upperLimit() {
        range(HEAD + "zone 100 1 1 20 %;", 20, 900);
    }

    /** "the upper one not less than the lower one". */
    private static void upperLimitNotLess() {
        range(HEAD + "zone 100 1 1 21 %;", 21, 900);
        range(HEAD + "zone 100 1 1 455 %;", 455, 900);
        range(HEAD + "zone 100 1 1 900 %;", 900, 900);
    }

    /** "thicknesses (2 to 19)": of a band. */
    private static void bandThickness() {
        range(LINE + "band % 20 20;", 2, 19);
        TemperingLine x = Due.line(LINE + "band 2 30 40;band 19 50 60;");
        Due.is("learned(2, 4)", x.learned(2, 4), 30);
        Due.is("learned(3, 4)", x.learned(3, 4), -1);
        Due.is("learned(18, 5)", x.learned(18, 5), -1);
        Due.is("learned(19, 5)", x.learned(19, 5), 60);
    }

    /** "a low and a high temperature (20 to 900)". */
    private static void bandLow() {
        range(LINE + "band 2 % 900;", 20, 900);
    }

    /** The same of the high one. */
    private static void bandHigh() {
        range(LINE + "band 2 20 %;", 20, 900);
    }

    /** "the high temperature (not less than the low one)". */
    private static void bandHighNotLess() {
        range(LINE + "band 2 21 %;", 21, 900);
        range(LINE + "band 2 455 %;", 455, 900);
        range(LINE + "band 2 900 %;", 900, 900);
    }

    /** "a later band for the same thickness replaces an earlier one". */
    private static void laterBandReplaces() {
        TemperingLine x = Due.line(LINE + "band 5 300 400;band 6 310 410;band 5 20 30;");
        Due.is("learned(5, 4)", x.learned(5, 4), 20);
        Due.is("learned(5, 5)", x.learned(5, 5), 30);
        Due.is("learned(6, 4)", x.learned(6, 4), 310);
        Due.is("learned(6, 5)", x.learned(6, 5), 410);
    }

    /** "A number as a factor is 0 to 9999." */
    private static void factor() {
        range(LINE + "heat %;", 0, 9999);
        range(LINE + "heat 1+2*(%);", 0, 9999);
    }

    /** "A number is a run of decimal digits, of any length". */
    private static void numbersOfAnyLength() {
        String zeros = "0".repeat(600);
        good("line " + zeros + "9 0;" + ZONE, 1);
        reads("line " + zeros + "10 0;" + ZONE, RANGE, 5);
        good("line 1 " + zeros + ";" + ZONE, 1);
        reads("line " + "9".repeat(600) + " 0;" + ZONE, RANGE, 5);
        reads("line 1" + zeros + "0 0;" + ZONE, RANGE, 5);
        // Each is 1 when it wraps around as an int, as a long or as a byte.
        for (String number : new String[] {"257", "65537", "4294967297", "8589934593",
            "18446744073709551617", "340282366920938463463374607431768211457"}) {
            reads("line " + number + " 0;" + ZONE, RANGE, 5);
            reads(LINE + "heat 1000" + number + ";", RANGE, 33);
        }
    }

    /** "(leading zeros do not matter)": and the error is at the first of them. */
    private static void leadingZeros() {
        TemperingLine x = Due.line("line 09 020;zone 0100 001 0001 00020 000020;");
        Due.is("zone(0, 0)", x.zone(0, 0), 100);
        Due.is("zone(0, 4)", x.zone(0, 4), 20);
        good(LINE + "heat 00009999;", 1);
        reads(LINE + "heat 000010000;", RANGE, 33);
        reads(HEAD + "zone 00099 1 1 20 20;", RANGE, 14);
        reads(HEAD + "zone 00901 1 1 20 20;", RANGE, 14);
    }

    /** "Each run is as long as possible." */
    private static void longestRuns() {
        reads("line 12;" + ZONE, RANGE, 5);
        reads("lineline 1 0;", SYNTAX, 0);
        reads(HEAD + "zoneheat 1;", SYNTAX, 9);
        reads(LINE + "heat gapgap;", SYNTAX, 33);
        reads(LINE + "heat thicknesszone;", SYNTAX, 33);
        reads(LINE + "heatgap;", SYNTAX, 28);
        good(LINE + "heat gap;", 1);
    }

    /** "a word is a run of the letters a to z": another letter, one more or one less. */
    private static void similarWords() {
        reads("mine 1 0;" + ZONE, SYNTAX, 0);
        reads("lina 1 0;" + ZONE, SYNTAX, 0);
        reads("lin 1 0;" + ZONE, SYNTAX, 0);
        reads("lines 1 0;" + ZONE, SYNTAX, 0);
        for (String word : new String[] {"bone", "zond", "zon", "zones", "hand", "bend", "ban",
            "bands", "beat", "head", "hea", "heats", "a", "z"}) {
            reads(LINE + word + " 2 20 20;", SYNTAX, 28);
        }
        for (String word : new String[] {"hickness", "thicknesz", "uhickness", "tap", "gaq", "ga",
            "one", "zona", "heat", "line", "band", "a", "z"}) {
            reads(LINE + "heat 1+" + word + ";", SYNTAX, 35);
        }
    }

    /** "Spaces may precede any token and may follow the last one"; a word and a number. */
    private static void spaces() {
        good(LINE.replace(" ", "   ").replace(";", " ; "), 1);
        good("   " + LINE + "   ", 1);
        good("line1 0;zone100 1 1 20 20;band2 20 20;heat9;", 1);
        good(LINE + "heat ( gap + 1 ) * 2 / ( zone - 3 ) ;", 1);
        good(LINE + "heat(gap+1)*2/(zone-3);", 1);
        reads("line 1 0 ;zo ne 100 1 1 20 20;", SYNTAX, 10);
        reads("line 1 0;zone 1 00 1 1 20 20;", RANGE, 14);
    }

    /** "No other byte separates tokens." */
    private static void noOtherByteSeparates() {
        for (int b = 0; b < 256; b++) {
            char c = (char) b;
            boolean known = c == ' ' || c >= '0' && c <= '9' || c >= 'a' && c <= 'z';
            if (!known) {
                reads(c + LINE, SYNTAX, 0);
                reads(LINE + c, SYNTAX, 28);
                reads("line" + c + "1 0;" + ZONE, SYNTAX, 4);
                reads("line 1" + c + "0;" + ZONE, SYNTAX, 6);
                reads(LINE + "heat" + c + ";", SYNTAX, c == '(' ? 33 : 32);
            }
        }
    }

    /** "The statement heat may occur once"; "a second heat, at its first letter". */
    private static void heatMayOccurOnce() {
        good(LINE, 1);
        good(LINE + "heat 1;", 1);
        reads(LINE + "heat 1;heat 1;", SYNTAX, 35);
        reads("line 1 0;heat 1;" + ZONE + "  heat", SYNTAX, 37);
        // It is the second one also after a text that had one.
        TemperingLine x = Due.line(LINE + "heat 1;");
        Due.is("load", Due.load(x, LINE + "heat 1;"), 1);
        Due.is("load", Due.load(x, LINE + "heat 1;x"), SYNTAX);
        Due.is("load", Due.load(x, LINE + "heat 1;"), 1);
    }

    /** "Parentheses nest at most 4 deep": "an opening parenthesis inside 4 others". */
    private static void fourParentheses() {
        good(LINE + "heat ((((1))));", 1);
        reads(LINE + "heat (((((1)))));", DEEP, 37);
        good(LINE + "heat ((((1))))*((((1))))+((((1))));", 1);
        good(LINE + "heat (1+(2*(3-(4))))-(1);", 1);
        reads(LINE + "heat (1+(2*(3-(4+(5)))))-(1);", DEEP, 45);
        reads(LINE + "heat ((((1))))+(((1)*(((", DEEP, 51);
        reads(LINE + "heat ((((  (", DEEP, 39);
    }

    /** "the end of the text, at its length, if the text ends too early". */
    private static void textEndsTooEarly() {
        String[] tokens = {"line", " 1", " 0", ";", "zone", " 100", " 1", " 1", " 20", " 20", ";",
            "band", " 2", " 20", " 20", ";", "heat", "(", "gap", "+", "1", ")", "*", "zone", "/",
            "thickness", "-", "2", ";"};
        StringBuilder text = new StringBuilder();
        for (int i = 0; i < tokens.length; i++) {
            boolean whole = i == 11 || i == 16;
            reads(text.toString(), whole ? 1 : SYNTAX, whole ? NONE : text.length());
            reads(text + "  ", whole ? 1 : SYNTAX, whole ? NONE : text.length() + 2);
            text.append(tokens[i]);
        }
        good(text.toString(), 1);
    }

    /** "a token or byte that the grammar does not allow here, at its first byte". */
    private static void tokenNotAllowed() {
        String[] tokens = {"line", "1", "0", ";", "zone", "100", "1", "1", "20", "20", ";", "band",
            "2", "20", "20", ";", "heat", "(", "gap", "+", "1", ")", "*", "zone", "/", "thickness",
            "-", "2", ";"};
        String[] wrong = {"word", "&", "line", ","};
        StringBuilder text = new StringBuilder();
        for (String token : tokens) {
            for (String other : wrong) {
                if (!other.equals(token)) {
                    reads(text + other + " ;", SYNTAX, text.length());
                }
            }
            text.append(token).append(' ');
        }
        for (String end : new String[] {";", "1", "gap", "(", ")", "+", "line", "x", "-"}) {
            reads(LINE + end, SYNTAX, 28);
        }
        for (String end : new String[] {"(", "gap", "1", "heat", "x", ")", "&"}) {
            reads(LINE + "heat 2 " + end, SYNTAX, 35);
        }
        for (String end : new String[] {")", "*", "/", "+", "-", ";", "heat", "line", "band"}) {
            reads(LINE + "heat 2*" + end, SYNTAX, 35);
        }
    }

    /** "The first error in the text is the one with the smallest offset." */
    private static void smallestOffsetCounts() {
        reads("line 0 21 x", RANGE, 5);
        reads("line 1 21 x", RANGE, 7);
        reads("line x 21", SYNTAX, 5);
        reads(HEAD + "zone 99 0 0 19 901 x", RANGE, 14);
        reads(HEAD + ZONE.repeat(6) + "band 1;zone", RANGE, 128);
        reads(HEAD + ZONE.repeat(6) + "zone 99 x", MANY, 123);
        reads(LINE + "heat 10000*(((((1", RANGE, 33);
        reads(LINE + "heat (((((10000", DEEP, 37);
        reads("line 1 21", RANGE, 7);
        reads(HEAD + "band 20", RANGE, 14);
    }

    /** "If several kinds of error have the same offset, the first one in this list counts". */
    private static void syntaxBeforeRange() {
        reads("99999", SYNTAX, 0);
        reads("line 1 0 99999", SYNTAX, 9);
        reads(HEAD + "zone 100 1 1 20 20 99999;", SYNTAX, 28);
        reads(LINE + "heat 2 99999;", SYNTAX, 35);
        reads(LINE + "heat (2)99999;", SYNTAX, 36);
    }

    /** The same of a parenthesis inside 4 others where none is allowed. */
    private static void syntaxBeforeDeep() {
        reads(LINE + "heat ((((1(", SYNTAX, 38);
        reads(LINE + "heat ((((gap (", SYNTAX, 41);
        reads(LINE + "heat ((((1)(", SYNTAX, 39);
    }

    /** The same of a zone beyond the maximum where no statement begins. */
    private static void syntaxBeforeMany() {
        String six = HEAD + ZONE.repeat(6);
        reads(six.substring(0, six.length() - 1) + "zone 100", SYNTAX, 122);
        reads(six + "heat zone zone", SYNTAX, 133);
        good(six + "heat zone;", 6);
        reads(six + "zones", SYNTAX, 123);
    }
}
