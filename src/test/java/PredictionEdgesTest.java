/**
 * Each sentence of the document that names an edge of the guard or of a prediction, with a test of
 * its own: promises 18 to 21.
 */
final class PredictionEdgesTest {
    private static final int WAITING = TemperingLine.WAITING;
    private static final int HEATED = TemperingLine.HEATED;
    private static final int QUENCHED = TemperingLine.QUENCHED;
    private static final int DONE = TemperingLine.DONE;
    private static final int BROKEN = TemperingLine.BROKEN;
    private static final int SPOILED = TemperingLine.SPOILED;
    private static final int MIN = Integer.MIN_VALUE;
    private static final int MAX = Integer.MAX_VALUE;
    private static final String FAST = "line 1 0;zone 300 99 999 20 900;heat 1000;";

    public static void main(String[] args) {
        guardThickness();
        guardWithinTicks();
        guardOfALineOfItsOwn();
        guardDoesNotPass();
        finishTimeLimit();
        finishTimeIsTheSmallest();
        finishTimeOfNothing();
        stateAfterArguments();
        stateAfterTicks();
        candidates();
        candidateLimits();
        nearestSetpoint();
        lowerOfTwoSetpoints();
        moreSheetsCount();
        doneWithin200Ticks();
        zoneTemperatureStays();
        bestWithoutSheets();
        Due.report();
    }

    /** "IllegalArgumentException if thickness is out of range": of guard. */
    private static void guardThickness() {
        TemperingLine x = Due.line(FAST);
        TemperingLine none = new TemperingLine();
        Due.is("guard(2)", x.guard(2), 4);
        Due.is("guard(19)", x.guard(19), 21);
        for (int t : new int[] {MIN, -1, 0, 1, 20, MAX}) {
            Due.argument("guard(" + t + ")", () -> x.guard(t));
            Due.argument("guard(" + t + ") without a line", () -> none.guard(t));
        }
    }

    /** Heats by 1 degree a tick: a sheet of 19 mm is DONE after so many ticks, 171 in quench. */
    private static TemperingLine slow(int ticks) {
        return Due.line("line 9 0;zone 900 99 999 " + (ticks - 171 + 19) + " 900;heat 1000/gap+1;");
    }

    /** "if this sheet is DONE after at most 300 ticks". */
    private static void guardWithinTicks() {
        Due.is("guard(19) of 299 ticks", slow(299).guard(19), 299);
        Due.is("guard(19) of 300 ticks", slow(300).guard(19), 300);
        Due.is("guard(19) of 301 ticks", slow(301).guard(19), -1);
        Due.is("guard(19) of 302 ticks", slow(302).guard(19), -1);
    }

    /** "zones at their setpoints ... an empty quench and a single WAITING sheet". */
    private static void guardOfALineOfItsOwn() {
        TemperingLine x = Due.line("line 9 0;zone 300 1 1 20 300;zone 300 1 1 20 300;heat 1000;");
        int alone = x.guard(2);
        Due.is("guard(2)", alone, 21);
        for (int i = 0; i < 20; i++) {
            Due.add(x, 19);
        }
        x.run(4);
        Due.is("a sheet in zone 0", x.zone(0, 6), 2);
        Due.is("a sheet in zone 1", x.zone(1, 6), 1);
        Due.is("a sheet in the quench", x.quenched(), 0);
        Due.is("a cold zone", x.zone(0, 5) < 100 ? 1 : 0, 1);
        Due.is("guard(2) of a full line", x.guard(2), alone);
        x.setPoint(1, 301);
        Due.is("guard(2) at a setpoint that is too hot", x.guard(2), -1);
        x.setPoint(1, 300);
        x.setCorrection(2, -1);
        Due.is("guard(2) with a correction that is too low", x.guard(2), -1);
        Due.is("guard(3)", x.guard(3), 30);
        Due.is("sheetCount()", x.sheetCount(), 20);
    }

    /** "-1 if the guard does not pass": for each way not to be DONE. */
    private static void guardDoesNotPass() {
        String[] wrong = {"line 1 0;zone 300 1 1 20 299;heat 1000;",
            "line 1 0;zone 300 1 1 301 900;heat 1000;", FAST + "band 2 301 301;",
            FAST + "band 2 299 299;", "line 1 0;zone 300 1 1 21 900;heat 0;"};
        for (String text : wrong) {
            Due.is("guard(2) of " + text, Due.line(text).guard(2), -1);
        }
        Due.is("guard(2) of a fitting band", Due.line(FAST + "band 2 300 300;").guard(2), 4);
    }

    /** "limit: 0 to 300". */
    private static void finishTimeLimit() {
        TemperingLine x = Due.line("line 1 0;zone 300 1 1 301 900;heat 1000;");
        TemperingLine none = new TemperingLine();
        Due.add(x, 2);
        Due.is("finishTime(0)", x.finishTime(0), -1);
        Due.is("finishTime(300)", x.finishTime(300), -1);
        for (int limit : new int[] {MIN, -1, 301, MAX}) {
            Due.argument("finishTime(" + limit + ")", () -> x.finishTime(limit));
            Due.argument("finishTime(" + limit + ") without a line", () -> none.finishTime(limit));
        }
    }

    /** "the smallest number of ticks, 0 to limit; -1 if limit ticks are not enough". */
    private static void finishTimeIsTheSmallest() {
        TemperingLine x = Due.line(FAST);
        Due.add(x, 2);
        for (int limit = 0; limit <= 300; limit++) {
            Due.is("finishTime(" + limit + ")", x.finishTime(limit), limit < 4 ? -1 : 4);
        }
        for (int ticks = 299; ticks <= 301; ticks++) {
            TemperingLine y = slow(ticks);
            Due.add(y, 19);
            Due.is("finishTime(300) of " + ticks, y.finishTime(300), ticks <= 300 ? ticks : -1);
            Due.is("finishTime(299) of " + ticks, y.finishTime(299), ticks <= 299 ? ticks : -1);
        }
    }

    /** "after how many ticks no sheet is WAITING, HEATED or QUENCHED": 0 if none is so now. */
    private static void finishTimeOfNothing() {
        TemperingLine x = Due.line(FAST + "band 3 20 20;");
        Due.is("finishTime(0) without sheets", x.finishTime(0), 0);
        Due.is("finishTime(300) without sheets", x.finishTime(300), 0);
        Due.add(x, 2);
        Due.add(x, 3);
        Due.add(x, 4);
        x.scrap(2);
        Due.is("finishTime(300)", x.finishTime(300), 7);
        x.run(6);
        Due.is("a sheet in its last tick", x.finishTime(300), 1);
        x.run(1);
        Due.is("DONE, BROKEN, SPOILED", x.finishTime(0), 0);
        Due.is("DONE", x.state(0), DONE);
        Due.is("BROKEN", x.state(1), BROKEN);
        Due.is("SPOILED", x.state(2), SPOILED);
    }

    /** "ticks: 0 to 300". */
    private static void stateAfterArguments() {
        TemperingLine x = Due.line(FAST);
        Due.add(x, 2);
        Due.is("stateAfter(0, 0)", x.stateAfter(0, 0), WAITING);
        Due.is("stateAfter(0, 300)", x.stateAfter(0, 300), DONE);
        for (int ticks : new int[] {MIN, -1, 301, MAX}) {
            Due.argument("stateAfter(0, " + ticks + ")", () -> x.stateAfter(0, ticks));
        }
    }

    /** "Returns its state after so many ticks": to the last tick, and of each sheet. */
    private static void stateAfterTicks() {
        TemperingLine x = Due.line(FAST);
        Due.add(x, 2);
        Due.add(x, 2);
        int[] first = {WAITING, HEATED, QUENCHED, QUENCHED, DONE, DONE, DONE};
        int[] second = {WAITING, WAITING, HEATED, HEATED, QUENCHED, QUENCHED, DONE};
        for (int ticks = 0; ticks < first.length; ticks++) {
            Due.is("stateAfter(0, " + ticks + ")", x.stateAfter(0, ticks), first[ticks]);
            Due.is("stateAfter(1, " + ticks + ")", x.stateAfter(1, ticks), second[ticks]);
        }
        for (int total = 299; total <= 301; total++) {
            TemperingLine y = slow(total);
            Due.add(y, 19);
            Due.is("stateAfter(0, 300)", y.stateAfter(0, 300), total <= 300 ? DONE : QUENCHED);
            Due.is("stateAfter(0, 299)", y.stateAfter(0, 299), total <= 299 ? DONE : QUENCHED);
        }
    }

    /** A zone below all candidates with a power that brings it to each of them in one tick. */
    private static TemperingLine poised(int present, String bands) {
        TemperingLine x = Due.line("line 1 0;zone " + Math.max(100, present - 60)
                + " 99 999 20 900;" + bands + "heat 1000;");
        x.setPoint(0, present);
        Due.add(x, 2);
        return x;
    }

    private static void best(int present, int low, int high, int due) {
        TemperingLine x = poised(present, "band 2 " + low + " " + high + ";");
        Due.is("bestSetpoint() at " + present + " for " + low + " to " + high,
                x.bestSetpoint(), due);
    }

    /** "the present setpoint and the present setpoint minus and plus 10, 20 and 30". */
    private static void candidates() {
        for (int offset : new int[] {-30, -20, -10, 0, 10, 20, 30}) {
            best(500, 500 + offset, 500 + offset, 500 + offset);
        }
        for (int offset : new int[] {-40, -31, -29, -15, -1, 1, 9, 11, 25, 31, 40}) {
            best(500, 500 + offset, 500 + offset, 500);
        }
    }

    /** "as far as they are 100 to 900". */
    private static void candidateLimits() {
        best(130, 100, 100, 100);
        best(110, 100, 100, 100);
        best(100, 110, 110, 110);
        best(129, 100, 108, 129);
        best(109, 100, 100, 109);
        best(870, 900, 900, 900);
        best(890, 900, 900, 900);
        best(900, 890, 890, 890);
        // 901 to 930 would heat the sheet into these windows, but they are no candidates.
        for (int present = 871; present <= 899; present += 4) {
            TemperingLine x = Due.line("line 1 0;zone 850 99 999 900 900;heat 1000;");
            x.setCorrection(2, 1);
            x.setPoint(0, present);
            Due.add(x, 2);
            Due.is("bestSetpoint() at " + present, x.bestSetpoint(), present);
        }
    }

    /** "of several, the one nearest to the present one". */
    private static void nearestSetpoint() {
        best(500, 20, 900, 500);
        best(500, 20, 490, 490);
        best(500, 20, 480, 480);
        best(500, 20, 470, 470);
        best(500, 510, 900, 510);
        best(500, 520, 900, 520);
        best(500, 530, 900, 530);
    }

    /** "of two equally near the lower one". */
    private static void lowerOfTwoSetpoints() {
        for (int distance = 10; distance <= 30; distance += 10) {
            int low = 500 - distance;
            int high = 500 + distance;
            TemperingLine x = poised(500, "band 2 " + low + " " + low + ";band 3 " + high + " "
                    + high + ";");
            Due.add(x, 3);
            Due.is("one sheet with each", x.bestSetpoint(), low);
            Due.add(x, 3);
            Due.is("two sheets with the higher one", x.bestSetpoint(), high);
            Due.add(x, 2);
            Due.is("two sheets with each", x.bestSetpoint(), low);
        }
    }

    /** "most of the sheets that are in the line or WAITING become DONE". */
    private static void moreSheetsCount() {
        TemperingLine x = poised(500, "band 2 500 500;band 3 470 470;");
        Due.is("one sheet with the present one", x.bestSetpoint(), 500);
        Due.add(x, 3);
        Due.is("one with each", x.bestSetpoint(), 500);
        Due.add(x, 3);
        Due.is("more with the farthest one", x.bestSetpoint(), 470);
        x.scrap(2);
        Due.is("a SPOILED one is not counted", x.bestSetpoint(), 500);
    }

    /** "within 200 ticks": 2 ticks in the zone and 9 * 22 in the quench, or one tick more. */
    private static void doneWithin200Ticks() {
        for (int wait = 0; wait <= 1; wait++) {
            TemperingLine x = Due.line("line 9 0;zone 440 99 999 20 900;band 3 490 490;heat 1000;");
            x.setPoint(0, 500);
            // 2 + 9 * 10 + 9 * 9 + 9 * 3 = 200, as each sheet moves on when the quench is free.
            Due.add(x, 10);
            Due.add(x, 9 - wait);
            Due.add(x, 3);
            Due.is("finishTime(300)", x.finishTime(300), 200 - 9 * wait);
            Due.is("bestSetpoint()", x.bestSetpoint(), 490);
        }
        TemperingLine x = Due.line("line 9 0;zone 200 1 999 20 900;zone 440 99 999 20 900;"
                + "band 3 490 490;heat 1000;");
        x.setPoint(1, 500);
        Due.add(x, 10);
        Due.add(x, 9);
        Due.add(x, 3);
        Due.is("finishTime(300)", x.finishTime(300), 201);
        Due.is("bestSetpoint() of 201 ticks", x.bestSetpoint(), 500);
    }

    /** "the temperature of the zone stays as it is". */
    private static void zoneTemperatureStays() {
        TemperingLine x = Due.line("line 1 0;zone 500 99 999 20 900;band 2 490 490;heat 1000;");
        Due.add(x, 2);
        Due.is("the zone is hotter than 490", x.bestSetpoint(), 500);
        TemperingLine y = Due.line("line 1 0;zone 400 1 999 20 900;band 2 420 420;heat 1000;");
        y.setPoint(0, 430);
        Due.add(y, 2);
        Due.is("the zone is far below 420", y.bestSetpoint(), 430);
        Due.is("zone(0, 0)", y.zone(0, 0), 430);
        Due.is("zone(0, 5)", y.zone(0, 5), 400);
    }

    /** No sheet becomes DONE with any setpoint: the present one is the nearest. */
    private static void bestWithoutSheets() {
        TemperingLine x = Due.line(FAST);
        Due.is("without sheets", x.bestSetpoint(), 300);
        Due.add(x, 2);
        x.run(10);
        Due.is("with a sheet that is DONE", x.bestSetpoint(), 300);
        x.setPoint(0, 100);
        Due.is("at the lowest setpoint", x.bestSetpoint(), 100);
        x.setPoint(0, 900);
        Due.is("at the highest setpoint", x.bestSetpoint(), 900);
        Due.is("-1 if there is no line", new TemperingLine().bestSetpoint(), -1);
    }
}
