/** Promises 2 to 4: the input buffer, the grammar and its errors. */
final class SetupTextTest {
    private static final int SYNTAX = TemperingLine.SYNTAX_ERROR;
    private static final int RANGE = TemperingLine.OUT_OF_RANGE;
    private static final int MANY = TemperingLine.TOO_MANY;
    private static final int DEEP = TemperingLine.TOO_DEEP;
    private static final String ZONE = "zone 100 1 1 20 20;";

    public static void main(String[] args) {
        buffer();
        bytes();
        goodTexts();
        similarWords();
        headerErrors();
        statementErrors();
        heatErrors();
        rangeEdges();
        afterAnError();
        loadStartsAnew();
        Due.report();
    }

    private static void buffer() {
        TemperingLine x = new TemperingLine();
        int spaces = 0x20202020;
        for (int i = 1; i <= 35; i++) {
            Due.is("append", x.append(spaces, spaces, spaces, spaces, spaces), 20 * i);
        }
        Due.is("append to a full buffer", x.append(0, 0, 0, 0, 0), -1);
        Due.is("append again", x.append(0, 0, 0, 0, 0), -1);
        Due.argument("load(-1)", () -> x.load(-1));
        Due.argument("load(701)", () -> x.load(701));
        Due.argument("load(MAX)", () -> x.load(Integer.MAX_VALUE));
        Due.argument("load(MIN)", () -> x.load(Integer.MIN_VALUE));
        Due.is("errorOffset()", x.errorOffset(), -1);
        Due.is("load(700)", x.load(700), SYNTAX);
        Due.is("errorOffset()", x.errorOffset(), 700);
        Due.argument("load(1) from an empty buffer", () -> x.load(1));
        Due.is("append", x.append(0, 0, 0, 0, 0), 20);
        Due.is("load(0)", x.load(0), SYNTAX);
        Due.is("errorOffset()", x.errorOffset(), 0);
        Due.argument("load(1): load(0) has emptied the buffer", () -> x.load(1));
        StringBuilder full = new StringBuilder("line 1 0;zone 100 1 1 20 20;heat 1");
        while (full.length() < 698) {
            full.append("+1");
        }
        error(full + ";", -1, 1);
        error(full + "+;", 699, SYNTAX);
    }

    /** The most significant byte comes first, and bytes have no sign. */
    private static void bytes() {
        TemperingLine x = new TemperingLine();
        x.append(0x6c696e65, 0x20312030, 0x3b7a6f6e, 0x65203130, 0x30203120);
        x.append(0x31203230, 0x2032303b, 0xffffffff, 0x80808080, 0);
        Due.is("load(28)", x.load(28), 1);
        Due.is("zone(0, 0)", x.zone(0, 0), 100);
        for (char c : new char[] {0, '\t', '\n', '\r', 31, '!', 'A', 'Z', '_', '{', '`', '@', ',',
            '.', '[', ':', 127, 128, 160, 176, 0xb0, 0xe1, 255}) {
            error("line 1 0;" + c + ZONE, 9, SYNTAX);
            error("line 1 0;" + ZONE + c, 28, SYNTAX);
            error("line 1" + c + "0;" + ZONE, 6, SYNTAX);
        }
    }

    private static void goodTexts() {
        TemperingLine x = Due.line("line1 20;zone100 99 999 20 900;band2 20 900;heat1;");
        Due.is("errorOffset()", x.errorOffset(), -1);
        int[] zone = {100, 99, 999, 20, 900, 100, -1};
        for (int what = 0; what <= 6; what++) {
            Due.is("zone(0, " + what + ")", x.zone(0, what), zone[what]);
        }
        Due.is("learned(2, 4)", x.learned(2, 4), 20);
        Due.is("learned(2, 5)", x.learned(2, 5), 900);
        Due.is("learned(3, 4)", x.learned(3, 4), -1);
        Due.is("learned(3, 5)", x.learned(3, 5), -1);
        TemperingLine y = Due.line("  line  0009 00 ;  band 019 0020 20 ; zone 0900 01 0001 900 900 "
                + "; band 19 30 40 ; zone 000000000000000000000000000000000000000100 1 1 20 20;   ");
        Due.is("zoneCount()", y.zoneCount(), 2);
        Due.is("zone(1, 0)", y.zone(1, 0), 100);
        Due.is("zone(0, 3)", y.zone(0, 3), 900);
        Due.is("the later band", y.learned(19, 4), 30);
        Due.is("the later band", y.learned(19, 5), 40);
        error("line 1 0;" + ZONE, -1, 1);
        error("line 1 0;" + ZONE.repeat(6), -1, 6);
        error("line 1 0;heat zone;" + ZONE, -1, 1);
        error("line 1 0;heat((((9999))))*zone/gap-thickness+0;" + ZONE, -1, 1);
        error("line 1 0;heat ( ( ( ( 1 ) ) ) ) + ((((gap)*2)*3)*4) ;" + ZONE, -1, 1);
        error("line 1 0;heat 2thickness;" + ZONE, 15, SYNTAX);
        error("line1 0;zone 100 1 1 20 20;garbage", 27, SYNTAX);
        TemperingLine part = new TemperingLine();
        Due.append(part, "line 1 0;" + ZONE + "garbage");
        Due.is("only the first bytes are read", part.load(28), 1);
    }

    /** A word counts as a whole: none with another letter, with one more or with one less. */
    private static void similarWords() {
        String text = "line 1 0;zone 100 1 1 20 20;band 2 20 20;heat zone+thickness+gap;";
        error(text, -1, 1);
        for (int at = 0; at < text.length(); at++) {
            if (Character.isLetter(text.charAt(at))) {
                int word = at;
                while (word > 0 && Character.isLetter(text.charAt(word - 1))) {
                    word--;
                }
                error(text.substring(0, at) + "x" + text.substring(at + 1), word, SYNTAX);
                error(text.substring(0, at) + "x" + text.substring(at), word, SYNTAX);
                error(text.substring(0, at) + text.substring(at + 1), word, SYNTAX);
            }
        }
    }

    private static void headerErrors() {
        error("", 0, SYNTAX);
        error("   ", 3, SYNTAX);
        error("lin", 0, SYNTAX);
        error("linee 1 0;", 0, SYNTAX);
        error("lineone 1 0;", 0, SYNTAX);
        error("Line 1 0;", 0, SYNTAX);
        error(" zone", 1, SYNTAX);
        error("1", 0, SYNTAX);
        error(";", 0, SYNTAX);
        error("line", 4, SYNTAX);
        error("line  ", 6, SYNTAX);
        error("line 1", 6, SYNTAX);
        error("line 1;", 6, SYNTAX);
        error("line x", 5, SYNTAX);
        error("line -1", 5, SYNTAX);
        error("line 1 x", 7, SYNTAX);
        error("line 1 0 0;", 9, SYNTAX);
        error("line 1 0x;", 8, SYNTAX);
        error("line 0 21;", 5, RANGE);
        error("line 10 21;", 5, RANGE);
        error("line 1 21", 7, RANGE);
        error("line 00010", 5, RANGE);
        error("line 4294967297 0;", 5, RANGE);
        error("line 18446744073709551617 0;", 5, RANGE);
        error("line 1 4294967296;", 7, RANGE);
    }

    private static void statementErrors() {
        error("line 1 0;", 9, SYNTAX);
        error("line 1 0;  ", 11, SYNTAX);
        error("line 1 0;band 2 20 20;", 22, SYNTAX);
        error("line 1 0;heat 1;", 16, SYNTAX);
        error("line 1 0;;" + ZONE, 9, SYNTAX);
        error("line 1 0;line 1 0;", 9, SYNTAX);
        error("line 1 0;zones 100", 9, SYNTAX);
        error("line 1 0;zon 100", 9, SYNTAX);
        error("line 1 0;gap;", 9, SYNTAX);
        error("line 1 0;5;", 9, SYNTAX);
        error("line 1 0;zone", 13, SYNTAX);
        error("line 1 0;zone;", 13, SYNTAX);
        error("line 1 0;zone 100 1 1 20 20", 27, SYNTAX);
        error("line 1 0;zone 100 1 1 20 20  ", 29, SYNTAX);
        error("line 1 0;zone 100 1 1 20 20 20;", 28, SYNTAX);
        error("line 1 0;zone 100 1 1 20 20 zone", 28, SYNTAX);
        error("line 1 0;band 2 20;", 18, SYNTAX);
        error("line 1 0;band 2 20 20", 21, SYNTAX);
        error("line 1 0;" + ZONE.repeat(6) + "zone", 123, MANY);
        error("line 1 0;" + ZONE.repeat(6) + " zone x", 124, MANY);
        error("line 1 0;" + ZONE.repeat(6) + " zones", 124, SYNTAX);
        error("line 1 0;" + ZONE.repeat(6) + "band 20 20 20;zone", 128, RANGE);
        error("line 1 0;" + ZONE.repeat(7), 123, MANY);
    }

    private static void heatErrors() {
        error("line 1 0;heat 1;heat 1;", 16, SYNTAX);
        error("line 1 0;heat 1;heat (((((", 16, SYNTAX);
        error("line 1 0;heat 1;" + ZONE + "heat 1;", 35, SYNTAX);
        error("line 1 0;heat", 13, SYNTAX);
        error("line 1 0;heat;", 13, SYNTAX);
        error("line 1 0;heat +1;", 14, SYNTAX);
        error("line 1 0;heat -1;", 14, SYNTAX);
        error("line 1 0;heat 1+;", 16, SYNTAX);
        error("line 1 0;heat 1*/2;", 16, SYNTAX);
        error("line 1 0;heat 1 2;", 16, SYNTAX);
        error("line 1 0;heat 1 gap;", 16, SYNTAX);
        error("line 1 0;heat 1(2);", 15, SYNTAX);
        error("line 1 0;heat ();", 15, SYNTAX);
        error("line 1 0;heat (1;", 16, SYNTAX);
        error("line 1 0;heat (1", 16, SYNTAX);
        error("line 1 0;heat 1);", 15, SYNTAX);
        error("line 1 0;heat (1));", 17, SYNTAX);
        error("line 1 0;heat heat;", 14, SYNTAX);
        error("line 1 0;heat gapp;", 14, SYNTAX);
        error("line 1 0;heat thicknes;", 14, SYNTAX);
        error("line 1 0;heat 10000;", 14, RANGE);
        error("line 1 0;heat 1+(10000x", 17, RANGE);
        error("line 1 0;heat 1*99999999999999999999;", 16, RANGE);
        error("line 1 0;heat 1%2;", 15, SYNTAX);
        error("line 1 0;heat (((((1)))));", 18, DEEP);
        error("line 1 0;heat ((((", 18, SYNTAX);
        error("line 1 0;heat (((( (", 19, DEEP);
        error("line 1 0;heat ((((1(", 19, SYNTAX);
        error("line 1 0;heat ((((1+2*(3", 22, DEEP);
        error("line 1 0;heat ((((1))))+((((1*(2)))));", 30, DEEP);
    }

    private static void rangeEdges() {
        edges("line %;" + ZONE, 1, 9);
        edges("line 1 %;" + ZONE, 0, 20);
        edges("line 1 0;zone % 1 1 20 20;", 100, 900);
        edges("line 1 0;zone 100 % 1 20 20;", 1, 99);
        edges("line 1 0;zone 100 1 % 20 20;", 1, 999);
        edges("line 1 0;zone 100 1 1 % 900;", 20, 900);
        edges("line 1 0;zone 100 1 1 20 %;", 20, 900);
        edges("line 1 0;zone 100 1 1 500 %;", 500, 900);
        edges("line 1 0;" + ZONE + "band % 20 20;", 2, 19);
        edges("line 1 0;" + ZONE + "band 5 % 900;", 20, 900);
        edges("line 1 0;" + ZONE + "band 5 20 %;", 20, 900);
        edges("line 1 0;" + ZONE + "band 5 500 %;", 500, 900);
        edges("line 1 0;" + ZONE + "heat %;", 0, 9999);
    }

    private static void edges(String text, int low, int high) {
        String whole = text.startsWith("line %") ? text.replace("%", "% 0") : text;
        int at = whole.indexOf('%');
        if (low > 0) {
            error(whole.replace("%", "" + (low - 1)), at, RANGE);
        }
        error(whole.replace("%", "" + low), -1, 1);
        error(whole.replace("%", "000" + high), -1, 1);
        error(whole.replace("%", "" + (high + 1)), at, RANGE);
        error(whole.replace("%", "99999999999"), at, RANGE);
    }

    /** An error leaves the line, its sheets and what can be undone as they were. */
    private static void afterAnError() {
        TemperingLine x = Due.line("line 3 4;zone 500 9 70 60 800;band 7 50 60;heat 300;");
        Due.add(x, 7);
        x.run(5);
        long sum = x.checksum();
        int guard = x.guard(7);
        Due.is("load", Due.load(x, "line 1 0;zone 200 1 1 20 20;band 7 30 40;heat 1;band 1"), RANGE);
        Due.is("errorOffset()", x.errorOffset(), 53);
        Due.is("checksum()", x.checksum(), sum);
        Due.is("guard(7)", x.guard(7), guard);
        Due.is("zone(0, 1)", x.zone(0, 1), 9);
        Due.is("zone(0, 4)", x.zone(0, 4), 800);
        Due.is("learned(7, 4)", x.learned(7, 4), 50);
        Due.argument("load(1)", () -> x.load(1));
        Due.is("errorOffset() after a throwing load", x.errorOffset(), 53);
        Due.is("undo()", x.undo(), 2);
        Due.is("errorOffset() after undo", x.errorOffset(), 53);
    }

    private static void loadStartsAnew() {
        TemperingLine x = Due.line("line 1 9;zone 500 9 70 60 800;band 7 890 900;heat 300;");
        Due.add(x, 7);
        x.run(60);
        Due.is("learned(7, 1)", x.learned(7, 1), 1);
        Due.add(x, 7);
        x.run(1);
        x.setPoint(0, 600);
        Due.is("load", Due.load(x, "line 1 0;zone 300 1 1 20 20;zone 400 1 1 20 20;"), 2);
        TemperingLine y = Due.line("line 1 0;zone 300 1 1 20 20;zone 400 1 1 20 20;");
        Due.is("checksum() as of a new object", x.checksum(), y.checksum());
        Due.is("clock()", x.clock(), 0);
        Due.is("sheetCount()", x.sheetCount(), 0);
        Due.is("learned(7, 1)", x.learned(7, 1), 0);
        Due.is("learned(7, 3)", x.learned(7, 3), 0);
        Due.is("learned(7, 4)", x.learned(7, 4), -1);
        Due.is("zone(0, 5)", x.zone(0, 5), 300);
        Due.is("zone(0, 6)", x.zone(0, 6), -1);
        Due.index("state(0)", () -> x.state(0));
        // The heat expression of the former text is forgotten too: 400 / 4 is used again.
        Due.add(x, 4);
        x.run(2);
        Due.is("temperature(0)", x.temperature(0), 20 + 280 * 100 / 1000);
        everythingStartsAnew();
    }

    /** A sheet in the quench, one in the zone, sheets that came through, and breaks of both kinds. */
    private static void everythingStartsAnew() {
        TemperingLine x = Due.line("line 1 9;zone 500 9 999 60 900;band 3 890 900;band 4 20 30;"
                + "heat 900;");
        for (int t = 2; t <= 6; t++) {
            Due.add(x, t);
        }
        x.run(13);
        Due.is("quenched()", x.quenched(), 3);
        Due.is("zone(0, 6)", x.zone(0, 6), 4);
        Due.is("learned(2, 0)", x.learned(2, 0), 1);
        Due.is("learned(3, 1)", x.learned(3, 1), 1);
        Due.is("learned(4, 2)", x.learned(4, 2), 1);
        Due.is("load with an error", Due.load(x, "lane"), SYNTAX);
        Due.is("errorOffset()", x.errorOffset(), 0);
        Due.is("load", Due.load(x, "line 1 0;zone 300 1 999 20 20;heat 700;"), 1);
        Due.is("errorOffset()", x.errorOffset(), -1);
        Due.is("quenched()", x.quenched(), -1);
        Due.is("quenchLeft()", x.quenchLeft(), 0);
        Due.is("zone(0, 6)", x.zone(0, 6), -1);
        for (int t = 2; t <= 19; t++) {
            for (int what = 0; what <= 5; what++) {
                Due.is("learned(" + t + ", " + what + ")", x.learned(t, what), what < 4 ? 0 : -1);
            }
        }
        Due.add(x, 4);
        x.run(2);
        Due.is("the new heat statement counts", x.temperature(0), 20 + 280 * 700 / 1000);
    }

    private static void error(String text, int offset, int answer) {
        TemperingLine x = new TemperingLine();
        Due.is("load of " + text, Due.load(x, text), answer);
        Due.is("errorOffset of " + text, x.errorOffset(), offset);
        Due.is("zoneCount after " + text, x.zoneCount(), Math.max(answer, 0));
        Due.is("undo after " + text, x.undo(), answer > 0 ? 0 : -1);
    }
}
