/** Promises 18 to 21: the guard and the predictions, which change nothing. */
final class PredictionTest {
    private static final String TWO = "line 1 10;zone 700 50 10 300 900;zone 700 50 10 600 700;"
            + "band 4 620 690;heat 500;";

    public static void main(String[] args) {
        guard();
        guardLimit();
        finishTime();
        stateAfter();
        bestSetpoint();
        bestSetpointLimits();
        nothingChanges();
        wrongArguments();
        Due.report();
    }

    private static void guard() {
        TemperingLine x = Due.line(TWO);
        Due.is("guard(4): it comes to 606 and breaks cold", x.guard(4), -1);
        Due.is("guard(2)", x.guard(2), 6);
        Due.is("setCorrection", x.setCorrection(4, 10), 0);
        Due.is("guard(4) with the correction", x.guard(4), 9);
        // Neither the sheets that are there nor the heat of the zones count for the guard.
        for (int i = 0; i < 20; i++) {
            Due.add(x, 19);
        }
        x.run(7);
        Due.is("guard(4) with a full line", x.guard(4), 9);
        Due.is("guard(2) with a full line", x.guard(2), 6);
        x.setPoint(0, 300);
        TemperingLine y = Due.line(TWO.replace("zone 700 50 10 300", "zone 300 50 10 300"));
        for (int t = 2; t <= 19; t++) {
            y.setCorrection(t, x.learned(t, 3));
            Due.is("guard at the present setpoints", x.guard(t), y.guard(t));
        }
        TemperingLine spoiled = Due.line("line 1 0;zone 300 1 1 20 100;heat 1000;");
        Due.is("guard of a sheet that is spoiled", spoiled.guard(5), -1);
        TemperingLine stuck = Due.line("line 1 0;zone 300 1 1 301 400;heat 1000;");
        Due.is("guard of a sheet that stays", stuck.guard(5), -1);
    }

    private static void guardLimit() {
        for (int quench = 1; quench <= 9; quench++) {
            TemperingLine x = Due.line("line " + quench + " 0;zone 300 1 999 20 900;heat 1000;");
            for (int t = 2; t <= 19; t++) {
                Due.is("guard(" + t + ")", x.guard(t), 2 + t * quench);
            }
        }
        // This heats by 1 degree a tick: at the lower limit after lower - 19 ticks.
        for (int lower = 170; lower <= 180; lower++) {
            TemperingLine x = Due.line("line 9 0;zone 900 99 999 " + lower
                    + " 900;heat 1000/gap+1;");
            int ticks = lower - 19 + 9 * 16;
            Due.is("guard(16) with " + ticks + " ticks", x.guard(16), ticks <= 300 ? ticks : -1);
        }
    }

    private static void finishTime() {
        TemperingLine x = Due.line("line 1 0;zone 300 1 999 20 900;heat 1000;");
        Due.is("finishTime(0) without sheets", x.finishTime(0), 0);
        Due.is("finishTime(300) without sheets", x.finishTime(300), 0);
        Due.add(x, 5);
        Due.is("finishTime(6)", x.finishTime(6), -1);
        Due.is("finishTime(7)", x.finishTime(7), 7);
        Due.is("finishTime(8)", x.finishTime(8), 7);
        Due.is("finishTime(0)", x.finishTime(0), -1);
        x.run(1);
        Due.is("finishTime(300) when HEATED", x.finishTime(300), 6);
        x.run(1);
        Due.is("finishTime(300) when QUENCHED", x.finishTime(300), 5);
        Due.is("finishTime(4)", x.finishTime(4), -1);
        x.run(5);
        Due.is("finishTime(0) when all have ended", x.finishTime(0), 0);
        TemperingLine stuck = Due.line("line 1 0;zone 300 1 1 301 400;heat 1000;");
        Due.add(stuck, 5);
        Due.is("finishTime(300) of a sheet that stays", stuck.finishTime(300), -1);
        stuck.scrap(0);
        Due.is("finishTime(0) after scrap", stuck.finishTime(0), 0);
        TemperingLine long300 = Due.line("line 9 0;zone 300 1 999 20 900;heat 1000;");
        Due.add(long300, 16);
        Due.add(long300, 17);
        // 2 + 144 + 153 = 299, and one tick to wait.
        Due.is("finishTime(300)", long300.finishTime(300), 299);
        Due.is("finishTime(299)", long300.finishTime(299), 299);
        Due.is("finishTime(298)", long300.finishTime(298), -1);
    }

    private static void stateAfter() {
        TemperingLine x = Due.line(TWO);
        Due.add(x, 4);
        Due.add(x, 2);
        Due.is("state after 0", x.stateAfter(0, 0), TemperingLine.WAITING);
        Due.is("state after 1", x.stateAfter(0, 1), TemperingLine.HEATED);
        Due.is("state after 3", x.stateAfter(0, 3), TemperingLine.HEATED);
        Due.is("state after 4", x.stateAfter(0, 4), TemperingLine.QUENCHED);
        Due.is("state after 7", x.stateAfter(0, 7), TemperingLine.QUENCHED);
        Due.is("state after 8", x.stateAfter(0, 8), TemperingLine.BROKEN);
        Due.is("state after 300", x.stateAfter(0, 300), TemperingLine.BROKEN);
        Due.is("state of the next after 1", x.stateAfter(1, 1), TemperingLine.WAITING);
        Due.is("state of the next after 300", x.stateAfter(1, 300), TemperingLine.DONE);
    }

    /** A line whose zone is below all candidates and brings a sheet to any of them at once. */
    private static TemperingLine poised(int present, String window, String bands) {
        TemperingLine x = Due.line("line 1 0;zone " + Math.max(100, present - 60) + " 99 999 "
                + window + ";" + bands + "heat 1000;");
        x.setPoint(0, present);
        return x;
    }

    private static void best(int present, int low, int high, int due) {
        TemperingLine x = poised(present, "20 900", "band 2 " + low + " " + high + ";");
        Due.add(x, 2);
        Due.is("bestSetpoint() from " + present + " for " + low + " to " + high,
                x.bestSetpoint(), due);
    }

    private static void bestSetpoint() {
        for (int offset = -40; offset <= 40; offset++) {
            boolean candidate = offset % 10 == 0 && Math.abs(offset) <= 30;
            best(500, 500 + offset, 500 + offset, candidate ? 500 + offset : 500);
        }
        best(500, 470, 490, 490);
        best(500, 510, 530, 510);
        best(500, 20, 900, 500);
        best(500, 20, 480, 480);
        best(500, 520, 900, 520);
        TemperingLine x = poised(500, "20 900", "band 2 490 490;band 3 510 510;band 4 480 480;");
        Due.is("without sheets", x.bestSetpoint(), 500);
        Due.add(x, 3);
        Due.add(x, 2);
        Due.is("of two equally near the lower one", x.bestSetpoint(), 490);
        Due.add(x, 3);
        Due.is("the one with more sheets", x.bestSetpoint(), 510);
        x.scrap(0);
        x.scrap(2);
        Due.is("scrapped sheets do not count", x.bestSetpoint(), 490);
        Due.add(x, 4);
        Due.is("of two with one sheet each the nearer one", x.bestSetpoint(), 490);
        Due.add(x, 4);
        Due.is("the farther one with more sheets", x.bestSetpoint(), 480);
        lastZoneOnly();
        zoneKeepsItsTemperature();
        twoHundredTicks();
    }

    private static void lastZoneOnly() {
        TemperingLine x = Due.line("line 1 0;zone 200 99 999 20 900;zone 440 99 999 20 900;"
                + "band 2 520 520;heat 1000;");
        x.setPoint(1, 500);
        Due.add(x, 2);
        Due.is("the setpoint of the last zone", x.bestSetpoint(), 520);
        x.setPoint(1, 520);
        x.run(2);
        Due.is("a sheet in the last zone", x.bestSetpoint(), 520);
        x.run(1);
        Due.is("a sheet in the quench", x.quenched(), 0);
        x.setPoint(1, 300);
        Due.is("a sheet in the quench is DONE with all", x.bestSetpoint(), 300);
    }

    /** A zone that is hotter than the candidates heats the sheet as hot as it is. */
    private static void zoneKeepsItsTemperature() {
        TemperingLine x = Due.line("line 1 0;zone 500 99 999 20 900;band 2 470 490;heat 1000;");
        Due.add(x, 2);
        Due.is("it cannot cool", x.bestSetpoint(), 500);
    }

    private static void twoHundredTicks() {
        String last = "zone 440 99 999 20 900;band 12 490 490;heat 1000;";
        TemperingLine x = Due.line("line 9 0;" + last);
        x.setPoint(0, 500);
        Due.add(x, 10);
        Due.add(x, 12);
        Due.is("DONE after 2 + 90 + 108 = 200 ticks", x.bestSetpoint(), 490);
        TemperingLine y = Due.line("line 9 0;zone 200 1 999 20 900;" + last);
        y.setPoint(1, 500);
        Due.add(y, 10);
        Due.add(y, 12);
        Due.is("DONE after 201 ticks", y.bestSetpoint(), 500);
        y.setPoint(1, 440);
        y.run(1);
        y.setPoint(1, 500);
        Due.is("DONE after 200 more ticks", y.bestSetpoint(), 490);
    }

    private static void bestSetpointLimits() {
        // A zone of 100 degrees is as good for 95 as for 100, but 95 is no candidate.
        best(105, 20, 100, 105);
        best(110, 20, 100, 100);
        best(130, 20, 100, 100);
        best(129, 20, 108, 129);
        best(890, 895, 900, 900);
        best(870, 895, 900, 900);
        best(869, 895, 900, 899);
        TemperingLine x = poised(895, "900 900", "");
        Due.add(x, 2);
        x.setCorrection(2, 5);
        Due.is("905 is no candidate", x.bestSetpoint(), 895);
        x.setCorrection(2, -5);
        Due.is("895 fits", x.bestSetpoint(), 895);
        x.setCorrection(2, -15);
        Due.is("885 fits", x.bestSetpoint(), 885);
    }

    private static void nothingChanges() {
        TemperingLine x = Due.line(TWO);
        Due.add(x, 4);
        Due.add(x, 2);
        x.run(2);
        x.setPoint(1, 650);
        long sum = x.checksum();
        for (int t = 2; t <= 19; t++) {
            x.guard(t);
            x.finishTime(300);
            x.stateAfter(1, 300);
            x.bestSetpoint();
            x.recognise(5, 50);
            x.risk(t);
        }
        Due.is("checksum()", x.checksum(), sum);
        Due.is("zone(1, 0)", x.zone(1, 0), 650);
        Due.is("undo()", x.undo(), 4);
    }

    private static void wrongArguments() {
        TemperingLine x = Due.line(TWO);
        Due.add(x, 4);
        for (int t : new int[] {-1, 0, 1, 20, Integer.MIN_VALUE, Integer.MAX_VALUE}) {
            Due.argument("guard(" + t + ")", () -> x.guard(t));
        }
        for (int t : new int[] {-1, 301, Integer.MIN_VALUE, Integer.MAX_VALUE}) {
            Due.argument("finishTime(" + t + ")", () -> x.finishTime(t));
            Due.argument("stateAfter(0, " + t + ")", () -> x.stateAfter(0, t));
            Due.index("stateAfter(1, " + t + ")", () -> x.stateAfter(1, t));
        }
        for (int sheet : new int[] {-1, 1, 20, Integer.MIN_VALUE, Integer.MAX_VALUE}) {
            Due.index("stateAfter(" + sheet + ", 0)", () -> x.stateAfter(sheet, 0));
        }
    }
}
