/** Promises 22 to 26: the changing methods besides load. */
final class ChangeTest {
    private static final String TEXT = "line 1 0;zone 300 1 999 20 900;zone 400 7 999 20 900;"
            + "heat 500;";
    private static final int[] ODD = {Integer.MIN_VALUE, -1, Integer.MAX_VALUE};

    public static void main(String[] args) {
        add();
        run();
        clockLimit();
        setPoint();
        setCorrection();
        scrap();
        refusalsChangeNothing();
        Due.report();
    }

    private static void add() {
        TemperingLine x = Due.line(TEXT);
        Due.is("add(5, 50)", x.add(5, 50), 0);
        Due.is("thickness(0)", x.thickness(0), 4);
        Due.is("add(9999, 9999)", thrownOrAdded(x, 9999, 9999), -1);
        Due.is("add(4874, 9999)", x.add(4874, 9999), 1);
        Due.is("thickness(1)", x.thickness(1), 19);
        Due.is("add(375, 9999)", x.add(375, 9999), 2);
        Due.is("thickness(2)", x.thickness(2), 2);
        x.run(2);
        x.scrap(1);
        for (int i = 3; i < 20; i++) {
            Due.is("add", x.add(5, 50), i);
            Due.is("state", x.state(i), TemperingLine.WAITING);
            Due.is("temperature", x.temperature(i), 20);
        }
        Due.state("the 21st add", () -> x.add(5, 50));
        Due.argument("add(0, 50)", () -> x.add(0, 50));
        Due.argument("add(1, 9999)", () -> x.add(1, 9999));
        x.run(60);
        x.run(60);
        Due.state("add after 20, all of which have ended", () -> x.add(5, 50));
        Due.is("sheetCount()", x.sheetCount(), 20);
        TemperingLine y = Due.line(TEXT);
        for (int wrong : new int[] {0, -1, 10000, Integer.MIN_VALUE, Integer.MAX_VALUE}) {
            Due.argument("add(" + wrong + ", 50)", () -> y.add(wrong, 50));
            Due.argument("add(5, " + wrong + ")", () -> y.add(5, wrong));
        }
        // 40 * 107374183 is 24 when it wraps around.
        Due.argument("add(107374183, 9)", () -> y.add(107374183, 9));
        Due.argument("add(500, 10000)", () -> y.add(500, 10000));
        Due.argument("thickness 1", () -> y.add(1, 40));
        Due.argument("thickness 20", () -> y.add(20, 40));
        Due.argument("thickness 0", () -> y.add(1, 9999));
        Due.argument("thickness 399960", () -> y.add(9999, 1));
        Due.is("sheetCount()", y.sheetCount(), 0);
        Due.is("add(1, 15)", y.add(1, 15), 0);
        Due.is("thickness(0)", y.thickness(0), 3);
    }

    private static int thrownOrAdded(TemperingLine x, int weight, int area) {
        try {
            return x.add(weight, area);
        } catch (IllegalArgumentException e) {
            return -1;
        }
    }

    private static void run() {
        TemperingLine x = Due.line(TEXT);
        Due.is("run(60) of an empty line", x.run(60), 0);
        Due.is("clock()", x.clock(), 60);
        for (int i = 0; i < 4; i++) {
            Due.add(x, 2);
        }
        // The sheets are DONE after 5, 7, 9 and 11 ticks.
        Due.is("run(4)", x.run(4), 0);
        Due.is("run(1)", x.run(1), 1);
        Due.is("run(1)", x.run(1), 0);
        Due.is("run(3)", x.run(3), 2);
        Due.is("run(60)", x.run(60), 1);
        Due.is("clock()", x.clock(), 129);
        Due.argument("run(0)", () -> x.run(0));
        Due.argument("run(61)", () -> x.run(61));
        for (int ticks : ODD) {
            Due.argument("run(" + ticks + ")", () -> x.run(ticks));
        }
        TemperingLine broken = Due.line("line 1 0;zone 300 1 999 20 900;band 2 20 20;heat 1000;");
        Due.add(broken, 2);
        Due.add(broken, 3);
        Due.is("a broken sheet is not counted", broken.run(60), 1);
        TemperingLine single = Due.line(TEXT);
        TemperingLine many = Due.line(TEXT);
        for (int t = 2; t <= 19; t++) {
            Due.add(single, t);
            Due.add(many, t);
        }
        for (int i = 0; i < 60; i++) {
            single.run(1);
        }
        many.run(60);
        Due.is("60 ticks in one call or in 60", single.checksum(), many.checksum());
    }

    /** "if the clock would exceed 100000": only beyond the 512th call, but it is named. */
    private static void clockLimit() {
        TemperingLine x = Due.line(TEXT);
        for (int i = 0; i < 1666; i++) {
            x.run(60);
        }
        Due.is("clock()", x.clock(), 99960);
        Due.state("run(41)", () -> x.run(41));
        Due.argument("run(61)", () -> x.run(61));
        Due.is("run(40)", x.run(40), 0);
        Due.is("clock()", x.clock(), 100000);
        Due.state("run(1)", () -> x.run(1));
        Due.is("clock()", x.clock(), 100000);
        Due.add(x, 2);
        Due.is("finishTime(300): the limit is one of run alone", x.finishTime(300), 5);
    }

    private static void setPoint() {
        TemperingLine x = Due.line(TEXT);
        Due.is("setPoint(1, 100)", x.setPoint(1, 100), 400);
        Due.is("zone(1, 0)", x.zone(1, 0), 100);
        Due.is("zone(1, 5)", x.zone(1, 5), 400);
        Due.is("setPoint(1, 900)", x.setPoint(1, 900), 100);
        Due.is("zone(0, 0)", x.zone(0, 0), 300);
        x.run(2);
        Due.is("zone(1, 5)", x.zone(1, 5), 414);
        Due.is("setPoint(1, 405)", x.setPoint(1, 405), 900);
        x.run(2);
        Due.is("zone(1, 5) above its setpoint", x.zone(1, 5), 414);
        for (int zone : new int[] {-1, 2, 6, Integer.MIN_VALUE, Integer.MAX_VALUE}) {
            Due.index("setPoint(" + zone + ", 100)", () -> x.setPoint(zone, 100));
            Due.index("setPoint(" + zone + ", 99)", () -> x.setPoint(zone, 99));
        }
        Due.argument("setPoint(0, 99)", () -> x.setPoint(0, 99));
        Due.argument("setPoint(0, 901)", () -> x.setPoint(0, 901));
        for (int wrong : ODD) {
            Due.argument("setPoint(0, " + wrong + ")", () -> x.setPoint(0, wrong));
        }
    }

    private static void setCorrection() {
        TemperingLine x = Due.line(TEXT);
        Due.is("setCorrection(2, 50)", x.setCorrection(2, 50), 0);
        Due.is("setCorrection(2, -50)", x.setCorrection(2, -50), 50);
        Due.is("setCorrection(19, 7)", x.setCorrection(19, 7), 0);
        Due.is("learned(2, 3)", x.learned(2, 3), -50);
        Due.is("learned(19, 3)", x.learned(19, 3), 7);
        Due.is("learned(3, 3)", x.learned(3, 3), 0);
        Due.argument("setCorrection(1, 0)", () -> x.setCorrection(1, 0));
        Due.argument("setCorrection(20, 0)", () -> x.setCorrection(20, 0));
        Due.argument("setCorrection(2, 51)", () -> x.setCorrection(2, 51));
        Due.argument("setCorrection(2, -51)", () -> x.setCorrection(2, -51));
        for (int wrong : new int[] {Integer.MIN_VALUE, Integer.MAX_VALUE}) {
            Due.argument("setCorrection(" + wrong + ", 0)", () -> x.setCorrection(wrong, 0));
            Due.argument("setCorrection(2, " + wrong + ")", () -> x.setCorrection(2, wrong));
        }
    }

    private static void scrap() {
        TemperingLine x = Due.line(TEXT);
        for (int i = 0; i < 5; i++) {
            Due.add(x, 9);
        }
        x.run(3);
        Due.is("quenched()", x.quenched(), 0);
        Due.is("zone(1, 6)", x.zone(1, 6), 1);
        int heat = x.temperature(1);
        Due.is("scrap(1)", x.scrap(1), TemperingLine.HEATED);
        Due.is("zone(1, 6)", x.zone(1, 6), -1);
        Due.is("state(1)", x.state(1), TemperingLine.SPOILED);
        Due.is("temperature(1)", x.temperature(1), heat);
        Due.is("zone(0, 6)", x.zone(0, 6), 2);
        Due.is("scrap(3)", x.scrap(3), TemperingLine.WAITING);
        Due.is("state(3)", x.state(3), TemperingLine.SPOILED);
        Due.state("scrap a SPOILED one", () -> x.scrap(3));
        Due.state("scrap a QUENCHED one", () -> x.scrap(0));
        x.run(1);
        Due.is("the next WAITING one is the last", x.zone(0, 6), 4);
        Due.is("zone(1, 6)", x.zone(1, 6), 2);
        x.run(60);
        Due.state("scrap a DONE one", () -> x.scrap(0));
        Due.is("count(DONE)", x.count(TemperingLine.DONE), 3);
        TemperingLine y = Due.line("line 1 0;zone 300 1 999 20 900;band 2 20 20;");
        Due.add(y, 2);
        y.run(10);
        Due.is("state(0)", y.state(0), TemperingLine.BROKEN);
        Due.state("scrap a BROKEN one", () -> y.scrap(0));
        for (int sheet : new int[] {-1, 1, 5, 20, Integer.MIN_VALUE, Integer.MAX_VALUE}) {
            Due.index("scrap(" + sheet + ")", () -> y.scrap(sheet));
        }
    }

    private static void refusalsChangeNothing() {
        TemperingLine x = Due.line(TEXT);
        Due.add(x, 3);
        x.run(1);
        long sum = x.checksum();
        Due.argument("add", () -> x.add(1, 9999));
        Due.argument("run", () -> x.run(61));
        Due.argument("setPoint", () -> x.setPoint(0, 901));
        Due.index("setPoint", () -> x.setPoint(2, 900));
        Due.argument("setCorrection", () -> x.setCorrection(3, 51));
        Due.index("scrap", () -> x.scrap(1));
        Due.argument("load", () -> x.load(1));
        Due.is("checksum()", x.checksum(), sum);
        Due.is("undo()", x.undo(), 2);
        Due.is("state(0)", x.state(0), TemperingLine.WAITING);
    }
}
