/**
 * Each sentence of the document that names an edge of the line, of a tick or of the heat
 * expression, with a test of its own: 'The line', 'A tick', what leaves the quench, the heat.
 * The numbers are found by hand. With heat 1000 a sheet gets as hot as its zone in one tick.
 */
final class LineEdgesTest {
    private static final int WAITING = TemperingLine.WAITING;
    private static final int HEATED = TemperingLine.HEATED;
    private static final int QUENCHED = TemperingLine.QUENCHED;
    private static final int DONE = TemperingLine.DONE;
    private static final int BROKEN = TemperingLine.BROKEN;
    private static final int SPOILED = TemperingLine.SPOILED;

    public static void main(String[] args) {
        numbersAtFirst();
        zoneReachesItsSetpoint();
        zoneNotBeyondItsSetpoint();
        zoneAtOrAboveItsSetpointStays();
        zoneWarmsBeforeItHeats();
        zoneHotterThanTheSheet();
        heatIsLimited();
        riseIsTruncated();
        zoneNotBelowTwenty();
        quenchTimeRunsOut();
        longestAndShortestQuench();
        limitsOfTheWindowAreIncluded();
        limitsOfAnInnerWindow();
        tooHotBeforeABlockedPlace();
        nextZoneIsEmpty();
        quenchIsEmpty();
        placeFreedInTheSameTick();
        oneZoneATick();
        smallestIndexFirst();
        zoneZeroIsEmpty();
        emptyLineTicks();
        bandLimitsAreIncluded();
        noBand();
        bandOfTheThickness();
        correctionUpToFifty();
        correctionDownToMinusFifty();
        learningStepOfZero();
        correctionInTheLastZoneOnly();
        correctionBeyondTheTemperatures();
        divisionByZero();
        resultLimitedAbove();
        resultLimitedBelow();
        eachResultIsLimited();
        divisionTowardZero();
        leftToRight();
        nestedAsDeepAsAllowed();
        namesInTheHeat();
        withoutHeatStatement();
        Due.report();
    }

    /** One zone and no waiting for heat: the sheet is hot, and moves, in its second tick. */
    private static TemperingLine single(String window, String more) {
        return Due.line("line 1 10;zone 300 99 999 " + window + ";heat 1000;" + more);
    }

    private static void zone(TemperingLine x, int zone, int temperature, int sheet) {
        Due.is("temperature of zone " + zone, x.zone(zone, 5), temperature);
        Due.is("sheet in zone " + zone, x.zone(zone, 6), sheet);
    }

    private static void sheet(TemperingLine x, int sheet, int temperature, int state) {
        Due.is("temperature of sheet " + sheet, x.temperature(sheet), temperature);
        Due.is("state of sheet " + sheet, x.state(sheet), state);
    }

    /** "a temperature, which is the setpoint at first"; "20 at first"; "WAITING (at first)". */
    private static void numbersAtFirst() {
        TemperingLine x = Due.line("line 1 20;zone 100 1 1 20 20;zone 900 1 1 20 20;");
        Due.add(x, 2);
        zone(x, 0, 100, -1);
        zone(x, 1, 900, -1);
        sheet(x, 0, 20, WAITING);
        for (int t = 2; t <= 19; t++) {
            for (int what = 0; what <= 3; what++) {
                Due.is("learned(" + t + ", " + what + ")", x.learned(t, what), 0);
            }
        }
    }

    /** "The temperature of each zone that is below its setpoint increases by its power". */
    private static void zoneReachesItsSetpoint() {
        TemperingLine x = Due.line("line 1 0;zone 100 99 1 20 20;zone 100 1 1 20 20;");
        x.setPoint(0, 199);
        x.setPoint(1, 101);
        x.run(1);
        zone(x, 0, 199, -1);
        zone(x, 1, 101, -1);
    }

    /** "but not beyond the setpoint". */
    private static void zoneNotBeyondItsSetpoint() {
        TemperingLine x = Due.line("line 1 0;zone 100 99 1 20 20;zone 100 2 1 20 20;");
        x.setPoint(0, 198);
        x.setPoint(1, 103);
        x.run(1);
        zone(x, 0, 198, -1);
        zone(x, 1, 102, -1);
        x.run(1);
        zone(x, 0, 198, -1);
        zone(x, 1, 103, -1);
    }

    /** "if it is above the setpoint, it does not increase": nor does it fall. */
    private static void zoneAtOrAboveItsSetpointStays() {
        TemperingLine x = Due.line("line 1 0;zone 101 99 1 20 20;");
        x.run(1);
        zone(x, 0, 101, -1);
        x.setPoint(0, 100);
        x.run(60);
        zone(x, 0, 101, -1);
    }

    /** Step (1) comes before step (2): the sheet gets the heat that the zone has just got. */
    private static void zoneWarmsBeforeItHeats() {
        TemperingLine x = Due.line("line 1 0;zone 100 50 999 900 900;heat 1000;");
        x.run(1);
        Due.add(x, 2);
        x.run(1);
        x.setPoint(0, 900);
        x.run(1);
        sheet(x, 0, 150, HEATED);
    }

    /** "each zone that holds a sheet and is hotter than the sheet". */
    private static void zoneHotterThanTheSheet() {
        TemperingLine x = Due.line("line 1 0;zone 900 1 1 900 900;heat 100;");
        Due.add(x, 19);
        x.run(2);
        sheet(x, 0, 108, HEATED);
        zone(x, 0, 20, 0);
        x.run(60);
        x.run(28);
        sheet(x, 0, 108, HEATED);
        zone(x, 0, 108, 0);
        // By 9 hotter: 9 * 100 / 1000 is 0. By 10 hotter: the sheet takes 1, the zone gives 19.
        x.run(9);
        sheet(x, 0, 108, HEATED);
        zone(x, 0, 117, 0);
        x.run(1);
        sheet(x, 0, 109, HEATED);
        zone(x, 0, 99, 0);
        TemperingLine y = Due.line("line 1 0;zone 100 1 999 900 900;heat 1000;");
        Due.add(y, 2);
        y.run(2);
        y.setPoint(0, 101);
        y.run(1);
        sheet(y, 0, 101, HEATED);
    }

    /** The temperature after one tick at 900 degrees, of a sheet of 2 mm. */
    private static void heat(String expression, int due) {
        TemperingLine x = Due.line("line 1 0;zone 900 1 999 900 900;heat " + expression + ";");
        Due.add(x, 2);
        x.run(2);
        Due.is("temperature by heat " + expression, x.temperature(0), 20 + due);
    }

    /** "h is the value of the heat expression, limited to the range 0 to 1000". */
    private static void heatIsLimited() {
        heat("0-1", 0);
        heat("0-1000*1000", 0);
        heat("0", 0);
        heat("999", 879);
        heat("1000", 880);
        heat("1001", 880);
        heat("1000*1000", 880);
    }

    /** "Division truncates toward zero": of the rise, and of the fall of the zone. */
    private static void riseIsTruncated() {
        heat("1", 0);
        heat("2", 1);
        heat("500", 440);
        heat("501", 440);
        int[] capacities = {159, 160, 161, 80, 81};
        int[] falls = {1, 1, 0, 2, 1};
        for (int i = 0; i < capacities.length; i++) {
            TemperingLine x = Due.line("line 1 0;zone 100 1 " + capacities[i]
                    + " 900 900;heat 1000;");
            Due.add(x, 2);
            x.run(2);
            zone(x, 0, 100 - falls[i], 0);
            sheet(x, 0, 100, HEATED);
        }
    }

    /** "that of the zone decreases by a * thickness / capacity, but not below 20". */
    private static void zoneNotBelowTwenty() {
        // The sheet takes 80 degrees: 80 * 2 / 2 = 80, 80 * 2 / 1 = 160, 80 * 3 / 4 = 60.
        int[][] rows = {{2, 2, 20}, {2, 1, 20}, {3, 4, 40}, {19, 19, 20}, {19, 20, 24},
            {19, 1, 20}};
        for (int[] row : rows) {
            TemperingLine x = Due.line("line 1 0;zone 100 1 " + row[1] + " 900 900;heat 1000;");
            Due.add(x, row[0]);
            x.run(2);
            zone(x, 0, row[2], 0);
        }
    }

    /** "its remaining time decreases by 1. If it is 0 then, the sheet leaves the quench". */
    private static void quenchTimeRunsOut() {
        TemperingLine x = single("20 900", "");
        Due.add(x, 2);
        x.run(2);
        sheet(x, 0, 300, QUENCHED);
        Due.is("quenched()", x.quenched(), 0);
        Due.is("quenchLeft()", x.quenchLeft(), 2);
        x.run(1);
        sheet(x, 0, 300, QUENCHED);
        Due.is("quenched()", x.quenched(), 0);
        Due.is("quenchLeft()", x.quenchLeft(), 1);
        Due.is("run(1)", x.run(1), 1);
        sheet(x, 0, 300, DONE);
        Due.is("quenched()", x.quenched(), -1);
        Due.is("quenchLeft()", x.quenchLeft(), 0);
        x.run(1);
        Due.is("quenchLeft() of the empty quench", x.quenchLeft(), 0);
    }

    /** "gets the remaining time thickness * quench time": 2 * 1 to 19 * 9. */
    private static void longestAndShortestQuench() {
        for (int quench = 1; quench <= 9; quench += 8) {
            for (int thickness = 2; thickness <= 19; thickness += 17) {
                TemperingLine x = Due.line("line " + quench
                        + " 0;zone 300 9 999 20 900;heat 1000;");
                Due.add(x, thickness);
                x.run(2);
                Due.is("quenchLeft()", x.quenchLeft(), thickness * quench);
                Due.is("finishTime(300)", x.finishTime(300), thickness * quench);
            }
        }
    }

    /** "inside its window (both limits included)"; "above its window". */
    private static void limitsOfTheWindowAreIncluded() {
        window("300 300", QUENCHED);
        window("20 300", QUENCHED);
        window("300 900", QUENCHED);
        window("301 900", HEATED);
        window("20 299", SPOILED);
        window("299 299", SPOILED);
        window("301 301", HEATED);
    }

    private static void window(String window, int due) {
        TemperingLine x = single(window, "");
        Due.add(x, 2);
        x.run(2);
        sheet(x, 0, 300, due);
        zone(x, 0, 300, due == HEATED ? 0 : -1);
        Due.is("quenched()", x.quenched(), due == QUENCHED ? 0 : -1);
    }

    /** The same of a zone that is not the last one. */
    private static void limitsOfAnInnerWindow() {
        String[] windows = {"300 300", "301 900", "20 299"};
        int[] firstHolds = {-1, 0, -1};
        int[] nextHolds = {0, -1, -1};
        for (int i = 0; i < windows.length; i++) {
            TemperingLine x = Due.line("line 1 0;zone 300 99 999 " + windows[i]
                    + ";zone 300 99 999 900 900;heat 1000;");
            Due.add(x, 2);
            x.run(2);
            sheet(x, 0, 300, i == 2 ? SPOILED : HEATED);
            zone(x, 0, 300, firstHolds[i]);
            zone(x, 1, 300, nextHolds[i]);
        }
    }

    /** A sheet above its window is SPOILED also if it could not move. */
    private static void tooHotBeforeABlockedPlace() {
        TemperingLine x = Due.line("line 9 0;zone 300 99 999 20 300;heat 1000;");
        Due.add(x, 19);
        Due.add(x, 2);
        x.run(3);
        sheet(x, 1, 300, HEATED);
        x.setPoint(0, 301);
        x.run(1);
        sheet(x, 1, 301, SPOILED);
        zone(x, 0, 301, -1);
        Due.is("quenched()", x.quenched(), 0);
    }

    /** "and the next zone ... is empty, the sheet moves there". */
    private static void nextZoneIsEmpty() {
        TemperingLine x = Due.line("line 1 0;zone 300 99 999 20 900;zone 300 99 999 900 900;"
                + "heat 1000;");
        Due.add(x, 2);
        Due.add(x, 2);
        x.run(2);
        zone(x, 0, 300, 1);
        zone(x, 1, 300, 0);
        x.run(60);
        zone(x, 0, 300, 1);
        zone(x, 1, 300, 0);
        x.scrap(0);
        x.run(1);
        zone(x, 0, 300, -1);
        zone(x, 1, 300, 1);
    }

    /** "(after the last zone, the quench)": "the quench hold at most one sheet". */
    private static void quenchIsEmpty() {
        TemperingLine x = single("20 900", "");
        Due.add(x, 3);
        Due.add(x, 2);
        x.run(4);
        Due.is("quenched()", x.quenched(), 0);
        Due.is("quenchLeft()", x.quenchLeft(), 1);
        sheet(x, 1, 300, HEATED);
        Due.is("run(1)", x.run(1), 1);
        Due.is("quenched()", x.quenched(), 1);
        Due.is("quenchLeft()", x.quenchLeft(), 2);
    }

    /** "from the last one to the first one": a place that is left can be taken at once. */
    private static void placeFreedInTheSameTick() {
        TemperingLine x = Due.line("line 1 0;zone 300 99 999 20 900;zone 300 99 999 20 900;"
                + "heat 1000;");
        for (int i = 0; i < 4; i++) {
            Due.add(x, 2);
        }
        x.run(4);
        Due.is("quenched()", x.quenched(), 0);
        zone(x, 1, 300, 1);
        zone(x, 0, 300, 2);
        x.run(1);
        Due.is("quenched()", x.quenched(), 1);
        zone(x, 1, 300, 2);
        zone(x, 0, 300, 3);
    }

    /** A sheet that has moved is not looked at again in the same tick. */
    private static void oneZoneATick() {
        TemperingLine x = Due.line("line 1 0;zone 300 99 999 20 900;zone 300 99 999 20 900;"
                + "zone 300 99 999 20 20;heat 1000;");
        Due.add(x, 2);
        x.run(2);
        zone(x, 1, 300, 0);
        x.run(1);
        zone(x, 2, 300, 0);
        sheet(x, 0, 300, HEATED);
        x.run(1);
        sheet(x, 0, 300, SPOILED);
    }

    /** "the one with the smallest index moves into zone 0": of those that are WAITING. */
    private static void smallestIndexFirst() {
        TemperingLine x = Due.line("line 1 0;zone 300 99 999 900 900;heat 1000;");
        for (int i = 0; i < 4; i++) {
            Due.add(x, 2);
        }
        x.scrap(0);
        x.run(1);
        zone(x, 0, 300, 1);
        x.scrap(1);
        x.scrap(2);
        x.run(1);
        zone(x, 0, 300, 3);
    }

    /** "If zone 0 is empty and a sheet is WAITING". */
    private static void zoneZeroIsEmpty() {
        TemperingLine x = Due.line("line 1 0;zone 300 99 999 900 900;heat 1000;");
        Due.add(x, 2);
        Due.add(x, 2);
        x.run(60);
        zone(x, 0, 300, 0);
        sheet(x, 1, 20, WAITING);
        x.scrap(0);
        zone(x, 0, 300, -1);
        x.run(1);
        zone(x, 0, 300, 1);
        sheet(x, 1, 20, HEATED);
        x.scrap(1);
        x.run(1);
        zone(x, 0, 300, -1);
        // A sheet that is SPOILED in step (4) leaves its place to the next in step (5).
        TemperingLine y = single("20 299", "");
        Due.add(y, 2);
        Due.add(y, 2);
        y.run(2);
        sheet(y, 0, 300, SPOILED);
        zone(y, 0, 300, 1);
    }

    /** Without sheets only the clock and the temperatures of the zones change. */
    private static void emptyLineTicks() {
        TemperingLine x = single("20 900", "");
        Due.is("run(60)", x.run(60), 0);
        Due.is("clock()", x.clock(), 60);
        zone(x, 0, 300, -1);
        Due.is("quenched()", x.quenched(), -1);
        Due.is("quenchLeft()", x.quenchLeft(), 0);
    }

    /** "its temperature is below the low or above the high temperature". */
    private static void bandLimitsAreIncluded() {
        band("300 300", DONE, 0, 0);
        band("20 300", DONE, 0, 0);
        band("300 900", DONE, 0, 0);
        band("301 900", BROKEN, 1, 0);
        band("301 301", BROKEN, 1, 0);
        band("20 299", BROKEN, 0, 1);
        band("299 299", BROKEN, 0, 1);
    }

    private static void band(String band, int state, int cold, int hot) {
        TemperingLine x = single("20 900", "band 2 " + band + ";");
        Due.add(x, 2);
        Due.is("run(4) with the band " + band, x.run(4), state == DONE ? 1 : 0);
        sheet(x, 0, 300, state);
        Due.is("passed sheets with the band " + band, x.learned(2, 0), state == DONE ? 1 : 0);
        Due.is("cold breaks with the band " + band, x.learned(2, 1), cold);
        Due.is("hot breaks with the band " + band, x.learned(2, 2), hot);
        Due.is("correction with the band " + band, x.learned(2, 3), 10 * cold - 10 * hot);
    }

    /** "if there is a band for its thickness": "Otherwise it is DONE". */
    private static void noBand() {
        TemperingLine x = single("20 900", "band 3 20 20;");
        Due.add(x, 2);
        Due.is("run(4)", x.run(4), 1);
        sheet(x, 0, 300, DONE);
        Due.is("learned(2, 0)", x.learned(2, 0), 1);
        Due.is("learned(2, 3)", x.learned(2, 3), 0);
    }

    /** The bands of the thinnest and of the thickest sheets, each with its own break. */
    private static void bandOfTheThickness() {
        TemperingLine x = single("20 900", "band 2 301 301;band 19 20 299;");
        Due.add(x, 2);
        Due.add(x, 19);
        Due.add(x, 3);
        Due.add(x, 18);
        x.run(60);
        sheet(x, 0, 300, BROKEN);
        sheet(x, 1, 300, BROKEN);
        sheet(x, 2, 300, DONE);
        sheet(x, 3, 300, DONE);
        int[][] learned = {{2, 0, 1, 0, 10}, {19, 0, 0, 1, -10}, {3, 1, 0, 0, 0}, {18, 1, 0, 0, 0}};
        for (int[] row : learned) {
            for (int what = 0; what <= 3; what++) {
                Due.is("learned(" + row[0] + ", " + what + ")", x.learned(row[0], what),
                        row[what + 1]);
            }
        }
    }

    private static void learns(String band, int step, int before, int after) {
        TemperingLine x = Due.line("line 1 " + step + ";zone 300 9 999 20 900;band 2 " + band
                + ";heat 1000;");
        x.setCorrection(2, before);
        Due.add(x, 2);
        x.run(4);
        sheet(x, 0, 300, BROKEN);
        Due.is("correction after " + before + " with step " + step, x.learned(2, 3), after);
        Due.is("the next thickness", x.learned(3, 3), 0);
    }

    /** "increases by the learning step"; "limited to the range -50 to 50". */
    private static void correctionUpToFifty() {
        learns("301 301", 20, 29, 49);
        learns("301 301", 20, 30, 50);
        learns("301 301", 20, 31, 50);
        learns("301 301", 20, 50, 50);
        learns("301 301", 1, 49, 50);
        learns("301 301", 1, 50, 50);
        learns("301 301", 20, -50, -30);
    }

    /** "after a hot break it decreases by it". */
    private static void correctionDownToMinusFifty() {
        learns("20 299", 20, -29, -49);
        learns("20 299", 20, -30, -50);
        learns("20 299", 20, -31, -50);
        learns("20 299", 20, -50, -50);
        learns("20 299", 1, -49, -50);
        learns("20 299", 1, -50, -50);
        learns("20 299", 20, 50, 30);
    }

    /** "the learning step (0 to 20)": with 0 a break is counted and nothing else. */
    private static void learningStepOfZero() {
        learns("301 301", 0, 7, 7);
        learns("20 299", 0, -7, -7);
    }

    /** "in the last zone, the correction ... is added to both limits". */
    private static void correctionInTheLastZoneOnly() {
        corrected(50, 250, 250, QUENCHED);
        corrected(50, 251, 251, HEATED);
        corrected(50, 249, 249, SPOILED);
        corrected(50, 249, 250, QUENCHED);
        corrected(50, 250, 251, QUENCHED);
        corrected(-50, 350, 350, QUENCHED);
        corrected(-50, 351, 351, HEATED);
        corrected(-50, 349, 349, SPOILED);
        TemperingLine x = Due.line("line 1 0;zone 300 99 999 300 300;zone 300 99 999 250 250;"
                + "heat 1000;");
        x.setCorrection(2, 50);
        Due.add(x, 2);
        x.run(2);
        zone(x, 1, 300, 0);
        x.run(1);
        sheet(x, 0, 300, QUENCHED);
    }

    private static void corrected(int correction, int low, int high, int due) {
        TemperingLine x = single(low + " " + high, "");
        x.setCorrection(2, correction);
        x.setCorrection(3, -correction);
        Due.add(x, 2);
        x.run(2);
        sheet(x, 0, 300, due);
        Due.is("zone(0, 3) shows no correction", x.zone(0, 3), low);
        Due.is("zone(0, 4) shows no correction", x.zone(0, 4), high);
    }

    /** Nothing limits the window with its correction: 20 - 50 and 900 + 50 are limits too. */
    private static void correctionBeyondTheTemperatures() {
        TemperingLine cold = Due.line("line 1 0;zone 300 9 999 20 69;heat 0;");
        cold.setCorrection(2, -50);
        cold.setCorrection(3, -49);
        Due.add(cold, 2);
        Due.add(cold, 3);
        cold.run(3);
        sheet(cold, 0, 20, SPOILED);
        sheet(cold, 1, 20, QUENCHED);
        TemperingLine hot = Due.line("line 1 0;zone 900 9 999 900 900;heat 1000;");
        hot.setCorrection(2, 1);
        Due.add(hot, 2);
        hot.run(60);
        sheet(hot, 0, 900, HEATED);
        hot.setCorrection(2, 0);
        hot.run(1);
        sheet(hot, 0, 900, QUENCHED);
    }

    /** "Division by 0 gives 0." */
    private static void divisionByZero() {
        heat("500/0", 0);
        heat("0/0+500", 440);
        heat("500/zone+250", 220);
        heat("500/(gap-gap)+250", 220);
        heat("(0-500)/zone+250", 220);
        heat("500/zone*9+500", 440);
    }

    /** "limited to the range -1000000 to 1000000": the upper bound. */
    private static void resultLimitedAbove() {
        heat("(1000*1000-9999*100)*8", 704);
        heat("(1000*999+999-9999*100)*8", 696);
        heat("(1000*999+1000-9999*100)*8", 704);
        heat("(1000*999+1001-9999*100)*8", 704);
        heat("(1000*1000+9999-9999*100)*8", 704);
        heat("(9999*9999-9999*100)*8", 704);
        heat("(1000*1000*(1000*1000)-9999*100)*8", 704);
        heat("(1000*1000-(0-1)-9999*100)*8", 704);
    }

    /** The lower bound. */
    private static void resultLimitedBelow() {
        heat("(0-1000*1000+9999*100+200)*8", 704);
        heat("(0-1000*999-999+9999*100+200)*8", 711);
        heat("(0-1000*999-1000+9999*100+200)*8", 704);
        heat("(0-1000*999-1001+9999*100+200)*8", 704);
        heat("(0-1000*1000-9999+9999*100+200)*8", 704);
        heat("((0-9999)*9999+9999*100+200)*8", 704);
        heat("((0-1000*1000)*(1000*1000)+9999*100+200)*8", 704);
        heat("(0-1000*1000+(0-1)+9999*100+200)*8", 704);
    }

    /** "the result of each one is limited": not just the last one. */
    private static void eachResultIsLimited() {
        heat("1000*1000+500-1000*1000", 0);
        heat("1000*1000-1000*1000+500", 440);
        heat("0-1000*1000-500+1000*1000+500", 440);
        heat("9999*9999/5000", 176);
        heat("9999*9999*9999/5000", 176);
        heat("9999/5000*9999", 880);
        heat("(0-9999)*9999/5000+300", 88);
        heat("(0-9999)*9999*(0-9999)/5000", 176);
    }

    /** "Division truncates toward zero": also of numbers below 0. */
    private static void divisionTowardZero() {
        heat("(0-1)/2*1000+500", 440);
        heat("1/(0-2)*1000+500", 440);
        heat("(0-3)/2*100+500", 352);
        heat("3/(0-2)*100+500", 352);
        heat("(0-3)/(0-2)*100", 88);
        heat("3/2*100", 88);
        heat("999/1000*1000", 0);
    }

    /** "The operations of one sum or term are made from the left to the right". */
    private static void leftToRight() {
        heat("600-200-100", 264);
        heat("600-(200-100)", 440);
        heat("600/3*2", 352);
        heat("600/(3*2)", 88);
        heat("7/2*100", 264);
        heat("100*7/2", 308);
        heat("500-100*2+200", 440);
    }

    /** "Parentheses nest at most 4 deep": with a sum and a term open at each level. */
    private static void nestedAsDeepAsAllowed() {
        heat("((((500))))", 440);
        heat("1+2*(1+2*(1+2*(1+2*(1+2*30))))", 880 * 991 / 1000);
        heat("900-2*(90-2*(50-2*(30-2*(10-2*3))))", 880 * 744 / 1000);
        heat("1000/(1000/(1000/(1000/(1000/7))))", 880 * 142 / 1000);
    }

    /** "thickness is the thickness", "zone is the index of the zone", "gap is" the difference. */
    private static void namesInTheHeat() {
        for (int thickness = 2; thickness <= 19; thickness += 17) {
            TemperingLine x = Due.line("line 1 0;zone 520 1 999 900 900;heat thickness*10;");
            Due.add(x, thickness);
            x.run(2);
            sheet(x, 0, 20 + thickness * 5, HEATED);
        }
        heat("gap/2", 880 * 440 / 1000);
        heat("500+zone", 440);
        StringBuilder six = new StringBuilder("line 1 0;");
        for (int z = 0; z < 6; z++) {
            six.append("zone ").append(100 + 100 * z).append(" 1 999 20 900;");
        }
        TemperingLine x = Due.line(six + "heat zone*200;");
        Due.add(x, 2);
        x.run(1);
        int due = 20;
        for (int z = 0; z < 6; z++) {
            x.run(1);
            due += (100 + 100 * z - due) * 200 * z / 1000;
            Due.is("temperature after zone " + z, x.temperature(0), due);
        }
        Due.is("temperature after a zone with heat 1000", due, 600);
    }

    /** "Without a heat statement h is 400 / thickness." */
    private static void withoutHeatStatement() {
        int[][] rows = {{2, 200}, {3, 133}, {19, 21}};
        for (int[] row : rows) {
            TemperingLine x = Due.line("line 1 0;zone 520 1 999 900 900;");
            Due.add(x, row[0]);
            x.run(2);
            sheet(x, 0, 20 + row[1] / 2, HEATED);
        }
    }
}
