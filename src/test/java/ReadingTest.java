/** Promises 5 to 17 on a line: what the reading methods answer and refuse. */
final class ReadingTest {
    private static final String TEXT =
            "line 2 3;zone 500 20 70 60 800;zone 620 31 90 500 700;band 4 500 600;heat 900;";

    public static void main(String[] args) {
        zones();
        sheets();
        learnedAndRisk();
        recognition();
        Due.report();
    }

    private static void zones() {
        TemperingLine x = Due.line(TEXT);
        int[] second = {620, 31, 90, 500, 700, 620, -1};
        Due.is("zoneCount()", x.zoneCount(), 2);
        for (int what = 0; what <= 6; what++) {
            Due.is("zone(1, " + what + ")", x.zone(1, what), second[what]);
        }
        for (int zone : new int[] {-1, 2, 6, Integer.MIN_VALUE, Integer.MAX_VALUE}) {
            Due.index("zone(" + zone + ", 0)", () -> x.zone(zone, 0));
            Due.index("zone(" + zone + ", 7)", () -> x.zone(zone, 7));
        }
        for (int what : new int[] {-1, 7, Integer.MIN_VALUE, Integer.MAX_VALUE}) {
            Due.argument("zone(0, " + what + ")", () -> x.zone(0, what));
        }
    }

    private static void sheets() {
        TemperingLine x = Due.line(TEXT);
        Due.is("add", Due.add(x, 4), 0);
        Due.is("add", Due.add(x, 19), 1);
        Due.is("add", Due.add(x, 2), 2);
        Due.is("sheetCount()", x.sheetCount(), 3);
        Due.is("thickness(0)", x.thickness(0), 4);
        Due.is("thickness(1)", x.thickness(1), 19);
        Due.is("thickness(2)", x.thickness(2), 2);
        Due.is("temperature(2)", x.temperature(2), 20);
        Due.is("state(2)", x.state(2), TemperingLine.WAITING);
        counts(x, 3, 0, 0, 0, 0, 0);
        x.run(1);
        counts(x, 2, 1, 0, 0, 0, 0);
        Due.is("clock()", x.clock(), 1);
        Due.is("zone(0, 6)", x.zone(0, 6), 0);
        x.run(1);
        Due.is("zone(0, 6)", x.zone(0, 6), 1);
        Due.is("zone(1, 6)", x.zone(1, 6), 0);
        Due.is("temperature(0)", x.temperature(0), 20 + 480 * 900 / 1000);
        Due.is("zone(0, 5)", x.zone(0, 5), 500 - 432 * 4 / 70);
        counts(x, 1, 2, 0, 0, 0, 0);
        x.run(1);
        Due.is("quenched()", x.quenched(), 0);
        Due.is("quenchLeft()", x.quenchLeft(), 8);
        Due.is("state(0)", x.state(0), TemperingLine.QUENCHED);
        Due.is("run(7)", x.run(7), 0);
        Due.is("quenchLeft()", x.quenchLeft(), 1);
        x.run(1);
        Due.is("state(0)", x.state(0), TemperingLine.BROKEN);
        Due.is("sheetCount()", x.sheetCount(), 3);
        x.scrap(2);
        Due.is("state(2)", x.state(2), TemperingLine.SPOILED);
        for (int sheet : new int[] {-1, 3, 20, Integer.MIN_VALUE, Integer.MAX_VALUE}) {
            Due.index("thickness(" + sheet + ")", () -> x.thickness(sheet));
            Due.index("temperature(" + sheet + ")", () -> x.temperature(sheet));
            Due.index("state(" + sheet + ")", () -> x.state(sheet));
        }
        for (int state : new int[] {-1, 6, Integer.MIN_VALUE, Integer.MAX_VALUE}) {
            Due.argument("count(" + state + ")", () -> x.count(state));
        }
    }

    private static void counts(TemperingLine x, int... due) {
        for (int state = 0; state <= 5; state++) {
            Due.is("count(" + state + ")", x.count(state), due[state]);
        }
    }

    private static void learnedAndRisk() {
        TemperingLine x = Due.line("line 1 0;zone 500 99 999 20 900;band 2 700 800;band 3 20 30;"
                + "band 4 500 500;heat 1000;");
        int[] thicknesses = {2, 2, 3, 4, 4, 4, 5};
        for (int t : thicknesses) {
            Due.add(x, t);
        }
        x.run(60);
        int[][] due = {{0, 2, 0, 0, 700, 800, 1000}, {0, 0, 1, 0, 20, 30, 1000},
            {3, 0, 0, 0, 500, 500, 0}, {1, 0, 0, 0, -1, -1, 0}, {0, 0, 0, 0, -1, -1, -1}};
        for (int t = 2; t <= 6; t++) {
            for (int what = 0; what <= 5; what++) {
                Due.is("learned(" + t + ", " + what + ")", x.learned(t, what), due[t - 2][what]);
            }
            Due.is("risk(" + t + ")", x.risk(t), due[t - 2][6]);
        }
        for (int thickness : new int[] {-1, 0, 1, 20, Integer.MIN_VALUE, Integer.MAX_VALUE}) {
            Due.argument("learned(" + thickness + ", 0)", () -> x.learned(thickness, 0));
            Due.argument("risk(" + thickness + ")", () -> x.risk(thickness));
        }
        for (int what : new int[] {-1, 6, Integer.MIN_VALUE, Integer.MAX_VALUE}) {
            Due.argument("learned(2, " + what + ")", () -> x.learned(2, what));
        }
        mixedRisk();
    }

    /** One break of each kind and one sheet that came through: 2 of 3. */
    private static void mixedRisk() {
        TemperingLine x = Due.line("line 1 0;zone 100 1 999 20 900;band 2 300 400;heat 1000;");
        for (int setpoint : new int[] {290, 340, 450}) {
            x.setPoint(0, setpoint);
            for (int i = 0; i < 4; i++) {
                x.run(60);
            }
            Due.add(x, 2);
            x.run(10);
        }
        Due.is("passed", x.learned(2, 0), 1);
        Due.is("cold breaks", x.learned(2, 1), 1);
        Due.is("hot breaks", x.learned(2, 2), 1);
        Due.is("risk(2)", x.risk(2), 666);
    }

    private static void recognition() {
        TemperingLine x = Due.line(TEXT);
        TemperingLine none = new TemperingLine();
        int[][] due = {{5, 50, 4}, {5, 100, 2}, {1, 1, -1}, {1, 2, -1}, {1, 3, 13}, {1, 26, 2},
            {1, 27, -1}, {1, 40, -1}, {49, 101, 19}, {50, 101, -1}, {974, 2000, 19},
            {975, 2000, -1}, {299, 8000, -1}, {300, 8000, 2}, {374, 9999, -1}, {375, 9999, 2},
            {4874, 9999, 19}, {4875, 9999, -1}, {9999, 9999, -1}, {1, 9999, -1}, {9999, 1, -1}};
        for (int[] row : due) {
            String call = "recognise(" + row[0] + ", " + row[1] + ")";
            Due.is(call, x.recognise(row[0], row[1]), row[2]);
            Due.is(call + " without a line", none.recognise(row[0], row[1]), row[2]);
        }
        for (int wrong : new int[] {0, -1, 10000, Integer.MIN_VALUE, Integer.MAX_VALUE}) {
            Due.argument("recognise(" + wrong + ", 1)", () -> x.recognise(wrong, 1));
            Due.argument("recognise(1, " + wrong + ")", () -> x.recognise(1, wrong));
        }
        Due.argument("recognise(107374183, 9)", () -> x.recognise(107374183, 9));
        Due.argument("recognise(500, 10000)", () -> x.recognise(500, 10000));
    }
}
