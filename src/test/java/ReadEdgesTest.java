import java.math.BigInteger;

/**
 * Each sentence of the document that names an edge of a new object or of a method that reads, with
 * a test of its own: promises 1 and 5 to 17, and the checksum.
 */
final class ReadEdgesTest {
    private static final int WAITING = TemperingLine.WAITING;
    private static final int MIN = Integer.MIN_VALUE;
    private static final int MAX = Integer.MAX_VALUE;
    private static final String FAST = "line 1 0;zone 300 99 999 20 900;heat 1000;";

    public static void main(String[] args) {
        newObject();
        numbersBeforeTheFirstLine();
        zoneCount();
        sheetCount();
        clock();
        zoneIndex();
        zoneWhat();
        sheetIndex();
        emptyZoneAndQuench();
        countState();
        learnedThickness();
        learnedWhat();
        learnedWithoutBand();
        riskThickness();
        riskWithoutSheets();
        riskBounds();
        recogniseArguments();
        recogniseThickness();
        recogniseRounds();
        checksumStartsAtZero();
        checksumOrder();
        checksumWrapsAround();
        Due.report();
    }

    /** "Creates an object without a line, with an empty input buffer." */
    private static void newObject() {
        TemperingLine x = new TemperingLine();
        Due.is("zoneCount()", x.zoneCount(), 0);
        Due.argument("load(1)", () -> x.load(1));
        Due.is("append", x.append(0, 0, 0, 0, 0), 20);
        TemperingLine y = Due.line(FAST);
        Due.is("another object has its own line", x.zoneCount(), 0);
        Due.is("another object", y.zoneCount(), 1);
    }

    /** "there are no zones, sheets and bands, and all numbers are 0": also after undo. */
    private static void numbersBeforeTheFirstLine() {
        TemperingLine undone = Due.line(FAST);
        Due.is("undo()", undone.undo(), 0);
        for (TemperingLine x : new TemperingLine[] {new TemperingLine(), undone}) {
            Due.is("zoneCount()", x.zoneCount(), 0);
            Due.is("sheetCount()", x.sheetCount(), 0);
            Due.is("clock()", x.clock(), 0);
            Due.index("zone(0, 0)", () -> x.zone(0, 0));
            Due.index("thickness(0)", () -> x.thickness(0));
            Due.index("temperature(0)", () -> x.temperature(0));
            Due.index("state(0)", () -> x.state(0));
            Due.is("quenched()", x.quenched(), -1);
            Due.is("quenchLeft()", x.quenchLeft(), 0);
            Due.is("checksum()", x.checksum(), checksum(x));
            for (int state = 0; state <= 5; state++) {
                Due.is("count(" + state + ")", x.count(state), 0);
            }
            for (int t = 2; t <= 19; t++) {
                for (int what = 0; what <= 5; what++) {
                    Due.is("learned", x.learned(t, what), what < 4 ? 0 : -1);
                }
                Due.is("risk(" + t + ")", x.risk(t), -1);
                Due.is("guard(" + t + ")", x.guard(t), -1);
            }
            Due.is("finishTime(0)", x.finishTime(0), 0);
            Due.is("bestSetpoint()", x.bestSetpoint(), -1);
            Due.is("recognise(5, 50)", x.recognise(5, 50), 4);
            Due.is("undo()", x.undo(), -1);
        }
    }

    /** "Returns the number of zones": of the latest good text. */
    private static void zoneCount() {
        TemperingLine x = Due.line(FAST);
        String zone = "zone 100 1 1 20 20;";
        for (int zones = 6; zones >= 1; zones--) {
            Due.load(x, "line 1 0;" + zone.repeat(zones));
            Due.is("zoneCount()", x.zoneCount(), zones);
        }
        Due.load(x, "line 1 0;" + zone.repeat(7));
        Due.is("zoneCount() after an error", x.zoneCount(), 1);
    }

    /** "the number of sheets that have been added": also of those that have ended. */
    private static void sheetCount() {
        TemperingLine x = Due.line(FAST);
        Due.is("sheetCount()", x.sheetCount(), 0);
        Due.add(x, 2);
        Due.add(x, 2);
        x.scrap(1);
        x.run(60);
        Due.is("sheetCount()", x.sheetCount(), 2);
        x.undo();
        x.undo();
        x.undo();
        Due.is("sheetCount() after undo", x.sheetCount(), 1);
    }

    /** "The clock is the number of ticks that have been simulated": predictions do not count. */
    private static void clock() {
        TemperingLine x = Due.line(FAST);
        Due.is("clock()", x.clock(), 0);
        x.run(1);
        x.run(60);
        x.finishTime(300);
        x.guard(2);
        x.bestSetpoint();
        Due.is("clock()", x.clock(), 61);
    }

    /** "IndexOutOfBoundsException if there is no such zone". */
    private static void zoneIndex() {
        String zone = "zone 100 1 1 20 20;";
        for (int zones = 1; zones <= 6; zones++) {
            TemperingLine x = Due.line("line 1 0;" + zone.repeat(zones));
            int count = zones;
            Due.is("the first zone", x.zone(0, 0), 100);
            Due.is("the last zone", x.zone(zones - 1, 0), 100);
            Due.index("the zone after the last one", () -> x.zone(count, 0));
            Due.index("zone(-1, 0)", () -> x.zone(-1, 0));
            Due.index("zone(MIN, 0)", () -> x.zone(MIN, 0));
            Due.index("zone(MAX, 0)", () -> x.zone(MAX, 0));
        }
    }

    /** "IllegalArgumentException if what is not 0 to 6". */
    private static void zoneWhat() {
        TemperingLine x = Due.line("line 1 0;zone 500 2 3 40 50;");
        Due.is("zone(0, 0)", x.zone(0, 0), 500);
        Due.is("zone(0, 6)", x.zone(0, 6), -1);
        for (int what : new int[] {MIN, -1, 7, MAX}) {
            Due.argument("zone(0, " + what + ")", () -> x.zone(0, what));
        }
    }

    /** "IndexOutOfBoundsException if there is no such sheet". */
    private static void sheetIndex() {
        TemperingLine x = Due.line(FAST);
        for (int sheets = 0; sheets <= 20; sheets++) {
            for (int wrong : new int[] {MIN, -1, sheets, MAX}) {
                Due.index("thickness(" + wrong + ")", () -> x.thickness(wrong));
                Due.index("temperature(" + wrong + ")", () -> x.temperature(wrong));
                Due.index("state(" + wrong + ")", () -> x.state(wrong));
                Due.index("scrap(" + wrong + ")", () -> x.scrap(wrong));
                Due.index("stateAfter(" + wrong + ", 0)", () -> x.stateAfter(wrong, 0));
            }
            if (sheets < 20) {
                Due.add(x, 2 + sheets % 18);
                Due.is("the last sheet's thickness", x.thickness(sheets), 2 + sheets % 18);
                Due.is("the last sheet's temperature", x.temperature(sheets), 20);
                Due.is("the last sheet's state", x.state(sheets), WAITING);
                Due.is("the first sheet's thickness", x.thickness(0), 2);
            }
        }
    }

    /** "(-1 if it is empty)"; "0 if it is empty": before, with and after a sheet. */
    private static void emptyZoneAndQuench() {
        TemperingLine x = Due.line(FAST);
        int[][] due = {{-1, -1, 0}, {0, -1, 0}, {-1, 0, 2}, {-1, 0, 1}, {-1, -1, 0}, {-1, -1, 0}};
        Due.add(x, 2);
        for (int[] row : due) {
            Due.is("zone(0, 6)", x.zone(0, 6), row[0]);
            Due.is("quenched()", x.quenched(), row[1]);
            Due.is("quenchLeft()", x.quenchLeft(), row[2]);
            x.run(1);
        }
    }

    /** "IllegalArgumentException if state is not 0 to 5": and each state is counted. */
    private static void countState() {
        TemperingLine x = new TemperingLine();
        Due.story(x);
        int[] due = {1, 2, 1, 1, 2, 1};
        for (int state = 0; state <= 5; state++) {
            Due.is("count(" + state + ")", x.count(state), due[state]);
        }
        for (int state : new int[] {MIN, -1, 6, MAX}) {
            Due.argument("count(" + state + ")", () -> x.count(state));
        }
    }

    /** "thickness: 2 to 19": of learned. */
    private static void learnedThickness() {
        TemperingLine x = Due.line(FAST + "band 2 30 40;band 19 50 60;");
        Due.is("learned(2, 4)", x.learned(2, 4), 30);
        Due.is("learned(19, 5)", x.learned(19, 5), 60);
        for (int t : new int[] {MIN, -1, 0, 1, 20, MAX}) {
            for (int what = 0; what <= 5; what++) {
                int asked = what;
                Due.argument("learned(" + t + ", " + what + ")", () -> x.learned(t, asked));
            }
        }
    }

    /** "or if what is not 0 to 5". */
    private static void learnedWhat() {
        TemperingLine x = Due.line(FAST);
        for (int what : new int[] {MIN, -1, 6, MAX}) {
            Due.argument("learned(2, " + what + ")", () -> x.learned(2, what));
            Due.argument("learned(19, " + what + ")", () -> x.learned(19, what));
            Due.argument("learned(1, " + what + ")", () -> x.learned(1, what));
        }
    }

    /** "(-1 each if there is no band)". */
    private static void learnedWithoutBand() {
        TemperingLine x = Due.line(FAST + "band 7 20 20;");
        for (int t = 2; t <= 19; t++) {
            Due.is("learned(" + t + ", 4)", x.learned(t, 4), t == 7 ? 20 : -1);
            Due.is("learned(" + t + ", 5)", x.learned(t, 5), t == 7 ? 20 : -1);
        }
    }

    /** "IllegalArgumentException if thickness is out of range": of risk. */
    private static void riskThickness() {
        TemperingLine x = Due.line(FAST);
        Due.is("risk(2)", x.risk(2), -1);
        Due.is("risk(19)", x.risk(19), -1);
        for (int t : new int[] {MIN, -1, 0, 1, 20, MAX}) {
            Due.argument("risk(" + t + ")", () -> x.risk(t));
        }
    }

    /** "-1 if there have been neither breaks nor passed sheets of this thickness". */
    private static void riskWithoutSheets() {
        TemperingLine x = Due.line(FAST);
        Due.add(x, 2);
        x.run(3);
        Due.is("risk(2) of a sheet in the quench", x.risk(2), -1);
        x.run(1);
        Due.is("risk(2) of a sheet that is DONE", x.risk(2), 0);
        Due.is("risk(3)", x.risk(3), -1);
        Due.add(x, 3);
        x.scrap(1);
        Due.is("risk(3) of a sheet that is SPOILED", x.risk(3), -1);
    }

    /** "1000 * (number of breaks) / (number of breaks plus number of passed sheets)". */
    private static void riskBounds() {
        TemperingLine x = Due.line("line 1 0;zone 300 99 999 20 900;band 2 400 500;heat 1000;");
        Due.add(x, 2);
        x.run(10);
        x.setPoint(0, 450);
        x.run(5);
        for (int sheets = 1; sheets <= 18; sheets++) {
            Due.is("risk(2) of one break of " + sheets + " sheets", x.risk(2), 1000 / sheets);
            Due.add(x, 2);
            x.run(10);
        }
        x.setPoint(0, 900);
        x.run(60);
        Due.add(x, 2);
        x.run(10);
        Due.is("cold breaks", x.learned(2, 1), 1);
        Due.is("hot breaks", x.learned(2, 2), 1);
        Due.is("risk(2) of two breaks of 20 sheets", x.risk(2), 100);
        TemperingLine all = Due.line("line 1 0;zone 300 99 999 20 900;band 2 400 500;heat 1000;");
        for (int breaks = 1; breaks <= 2; breaks++) {
            Due.add(all, 2);
            all.run(10);
            Due.is("risk(2) of breaks alone", all.risk(2), 1000);
            all.setPoint(0, 900);
            all.run(60);
        }
    }

    /** "weight: 1 to 9999", "area: 1 to 9999". */
    private static void recogniseArguments() {
        TemperingLine x = new TemperingLine();
        Due.is("recognise(1, 1)", x.recognise(1, 1), -1);
        Due.is("recognise(9999, 9999)", x.recognise(9999, 9999), -1);
        Due.is("recognise(9999, 1)", x.recognise(9999, 1), -1);
        Due.is("recognise(1, 9999)", x.recognise(1, 9999), -1);
        Due.is("recognise(1, 20)", x.recognise(1, 20), 2);
        Due.is("recognise(500, 9999)", x.recognise(500, 9999), 2);
        Due.argument("recognise(107374183, 9), of 3 mm if it wraps around",
                () -> x.recognise(107374183, 9));
        for (int wrong : new int[] {MIN, -1, 0, 10000, MAX}) {
            Due.argument("recognise(" + wrong + ", 50)", () -> x.recognise(wrong, 50));
            Due.argument("recognise(5, " + wrong + ")", () -> x.recognise(5, wrong));
            Due.argument("recognise(" + wrong + ", 10000)", () -> x.recognise(wrong, 10000));
        }
    }

    /** "-1 if it is not 2 to 19". */
    private static void recogniseThickness() {
        TemperingLine x = new TemperingLine();
        // On 40 hundredths the thickness is the weight.
        for (int weight = 1; weight <= 25; weight++) {
            boolean known = weight >= 2 && weight <= 19;
            Due.is("recognise(" + weight + ", 40)", x.recognise(weight, 40), known ? weight : -1);
        }
    }

    /** "(40 * weight + area / 2) / area": the last area, and weight, for each thickness. */
    private static void recogniseRounds() {
        TemperingLine x = new TemperingLine();
        int[][] rows = {{1, 26, 2}, {1, 27, -1}, {1, 16, 3}, {1, 17, 2}, {1, 2, -1}, {1, 3, 13},
            {299, 8000, -1}, {300, 8000, 2}, {3899, 8000, 19}, {3900, 8000, -1}, {2437, 4999, 19},
            {2438, 4999, -1}, {374, 9999, -1}, {375, 9999, 2}};
        for (int[] row : rows) {
            String call = "recognise(" + row[0] + ", " + row[1] + ")";
            Due.is(call, x.recognise(row[0], row[1]), row[2]);
        }
    }

    /** "It starts at 0": without a line all numbers but quenched() are 0. */
    private static void checksumStartsAtZero() {
        // quenched() is the second number of 75: 73 numbers follow it.
        BigInteger due = BigInteger.valueOf(31).pow(73).negate();
        Due.is("checksum()", new TemperingLine().checksum(), due.longValue());
    }

    /** Each number in its order: the line of the story, number for number. */
    private static void checksumOrder() {
        TemperingLine x = new TemperingLine();
        Due.story(x);
        Due.is("checksum()", x.checksum(), checksum(x));
        TemperingLine six = Due.line("line 1 0;" + "zone 900 1 1 20 20;".repeat(6));
        Due.is("checksum() of 6 zones", six.checksum(), checksum(six));
        for (int i = 0; i < 20; i++) {
            Due.add(six, 19);
        }
        six.run(60);
        Due.is("checksum() of 20 sheets", six.checksum(), checksum(six));
        six.setCorrection(19, -50);
        Due.is("checksum() with a number below 0 at its end", six.checksum(), checksum(six));
    }

    /** "wrapping around on overflow of a long": as the same number without a bound does. */
    private static void checksumWrapsAround() {
        TemperingLine x = Due.line(FAST);
        BigInteger exact = exactChecksum(x);
        Due.is("it is longer than a long", exact.bitLength() > 64 ? 1 : 0, 1);
        Due.is("checksum()", x.checksum(), exact.longValue());
        int negative = 0;
        int positive = 0;
        for (int i = 0; i < 60; i++) {
            x.run(1);
            x.setCorrection(2 + i % 18, i - 30);
            Due.is("checksum()", x.checksum(), exactChecksum(x).longValue());
            negative += x.checksum() < 0 ? 1 : 0;
            positive += x.checksum() > 0 ? 1 : 0;
        }
        Due.is("it wraps around to both sides", negative > 0 && positive > 0 ? 1 : 0, 1);
    }

    private static long checksum(TemperingLine x) {
        return exactChecksum(x).longValue();
    }

    private static BigInteger exactChecksum(TemperingLine x) {
        BigInteger sum = BigInteger.valueOf(x.clock());
        for (int z = 0; z < x.zoneCount(); z++) {
            sum = next(next(next(sum, x.zone(z, 0)), x.zone(z, 5)), x.zone(z, 6));
        }
        sum = next(next(sum, x.quenched()), x.quenchLeft());
        for (int s = 0; s < x.sheetCount(); s++) {
            sum = next(next(next(sum, x.thickness(s)), x.temperature(s)), x.state(s));
        }
        for (int t = 2; t <= 19; t++) {
            for (int what = 0; what <= 3; what++) {
                sum = next(sum, x.learned(t, what));
            }
        }
        return sum;
    }

    private static BigInteger next(BigInteger sum, int number) {
        return sum.multiply(BigInteger.valueOf(31)).add(BigInteger.valueOf(number));
    }
}
