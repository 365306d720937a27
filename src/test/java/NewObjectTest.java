/** Promise 1, and what every method answers while there is no line. */
final class NewObjectTest {
    public static void main(String[] args) {
        TemperingLine x = new TemperingLine();
        noLine(x);
        Due.index("zone(0, 7)", () -> x.zone(0, 7));
        Due.index("stateAfter(0, -1)", () -> x.stateAfter(0, -1));
        Due.index("setPoint(0, 0)", () -> x.setPoint(0, 0));
        Due.argument("add(0, 1)", () -> x.add(0, 1));
        Due.argument("add(1, 9999)", () -> x.add(1, 9999));
        Due.state("add(5, 50)", () -> x.add(5, 50));
        Due.argument("run(0)", () -> x.run(0));
        Due.argument("run(61)", () -> x.run(61));
        Due.state("run(1)", () -> x.run(1));
        Due.argument("setCorrection(1, 0)", () -> x.setCorrection(1, 0));
        Due.argument("setCorrection(2, 51)", () -> x.setCorrection(2, 51));
        Due.state("setCorrection(2, 0)", () -> x.setCorrection(2, 0));
        Due.index("scrap(0)", () -> x.scrap(0));
        Due.is("undo()", x.undo(), -1);
        Due.argument("load(1)", () -> x.load(1));
        Due.is("errorOffset() after a throwing load", x.errorOffset(), -1);
        Due.is("load(0)", x.load(0), TemperingLine.SYNTAX_ERROR);
        Due.is("errorOffset()", x.errorOffset(), 0);
        noLine(x);
        Due.report();
    }

    private static void noLine(TemperingLine x) {
        Due.is("zoneCount()", x.zoneCount(), 0);
        Due.is("sheetCount()", x.sheetCount(), 0);
        Due.is("clock()", x.clock(), 0);
        Due.is("quenched()", x.quenched(), -1);
        Due.is("quenchLeft()", x.quenchLeft(), 0);
        for (int state = 0; state <= 5; state++) {
            Due.is("count", x.count(state), 0);
        }
        for (int t = 2; t <= 19; t++) {
            int thickness = t;
            for (int what = 0; what <= 3; what++) {
                Due.is("learned", x.learned(t, what), 0);
            }
            Due.is("learned low", x.learned(t, 4), -1);
            Due.is("learned high", x.learned(t, 5), -1);
            Due.is("risk", x.risk(t), -1);
            Due.is("guard", x.guard(t), -1);
            Due.state("setCorrection", () -> x.setCorrection(thickness, 0));
        }
        Due.is("recognise(5, 50)", x.recognise(5, 50), 4);
        Due.is("finishTime(0)", x.finishTime(0), 0);
        Due.is("finishTime(300)", x.finishTime(300), 0);
        Due.is("bestSetpoint()", x.bestSetpoint(), -1);
        Due.index("zone(0, 0)", () -> x.zone(0, 0));
        Due.index("zone(-1, 0)", () -> x.zone(-1, 0));
        Due.index("thickness(0)", () -> x.thickness(0));
        Due.index("temperature(0)", () -> x.temperature(0));
        Due.index("state(0)", () -> x.state(0));
        long sum = -1;
        sum = sum * 31;
        for (int i = 0; i < 72; i++) {
            sum = sum * 31;
        }
        Due.is("checksum()", x.checksum(), sum);
    }
}
