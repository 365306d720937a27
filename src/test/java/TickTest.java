/** The steps of a tick, the heat expression and the learning, with numbers found by hand. */
final class TickTest {
    public static void main(String[] args) {
        zoneWarmsToSetpoint();
        zoneDoesNotCoolBelowTwenty();
        coolerZoneDoesNotHeat();
        stepsInOrder();
        windowEdges();
        correctionShiftsTheLastWindowOnly();
        blockedByTheNext();
        learningIsLimited();
        bandEdges();
        heatValues();
        Due.report();
    }

    private static void zoneWarmsToSetpoint() {
        TemperingLine x = Due.line("line 1 0;zone 100 30 1 20 20;");
        x.setPoint(0, 170);
        int[] due = {130, 160, 170, 170};
        for (int temperature : due) {
            x.run(1);
            Due.is("zone(0, 5)", x.zone(0, 5), temperature);
        }
        x.setPoint(0, 100);
        x.run(5);
        Due.is("a zone above its setpoint stays as it is", x.zone(0, 5), 170);
    }

    private static void zoneDoesNotCoolBelowTwenty() {
        TemperingLine x = Due.line("line 1 0;zone 900 1 1 20 900;heat 100;");
        Due.add(x, 19);
        x.run(2);
        Due.is("temperature(0)", x.temperature(0), 108);
        Due.is("zone(0, 5)", x.zone(0, 5), 20);
        x.run(1);
        Due.is("zone(0, 5)", x.zone(0, 5), 21);
    }

    private static void coolerZoneDoesNotHeat() {
        TemperingLine x = Due.line("line 1 0;zone 900 1 1 109 900;heat 100;");
        Due.add(x, 19);
        x.run(60);
        Due.is("temperature(0)", x.temperature(0), 108);
        Due.is("zone(0, 5)", x.zone(0, 5), 78);
        x.run(31);
        Due.is("the zone has passed the sheet by 1 again, a is 0", x.temperature(0), 108);
        Due.is("zone(0, 5)", x.zone(0, 5), 109);
    }

    /** A sheet that moves is not moved again in its tick, and the freed places are used. */
    private static void stepsInOrder() {
        TemperingLine x = Due.line("line 1 0;zone 400 99 999 20 900;zone 400 99 999 20 900;"
                + "zone 400 99 999 20 900;heat 500;");
        for (int i = 0; i < 4; i++) {
            Due.add(x, 2);
        }
        x.run(1);
        places(x, 0, -1, -1, -1);
        x.run(1);
        places(x, 1, 0, -1, -1);
        x.run(1);
        places(x, 2, 1, 0, -1);
        x.run(1);
        places(x, 3, 2, 1, 0);
        Due.is("quenchLeft()", x.quenchLeft(), 2);
        x.run(1);
        places(x, 3, 2, 1, 0);
        Due.is("quenchLeft()", x.quenchLeft(), 1);
        Due.is("run(1)", x.run(1), 1);
        places(x, -1, 3, 2, 1);
        Due.is("quenchLeft()", x.quenchLeft(), 2);
        Due.is("run(6)", x.run(6), 3);
        Due.is("quenchLeft()", x.quenchLeft(), 0);
        Due.is("clock()", x.clock(), 12);
    }

    private static void places(TemperingLine x, int first, int second, int third, int quench) {
        Due.is("zone(0, 6)", x.zone(0, 6), first);
        Due.is("zone(1, 6)", x.zone(1, 6), second);
        Due.is("zone(2, 6)", x.zone(2, 6), third);
        Due.is("quenched()", x.quenched(), quench);
    }

    /** The sheet comes to 300: both limits are included. */
    private static void windowEdges() {
        windowEdge(300, 300, TemperingLine.QUENCHED);
        windowEdge(299, 300, TemperingLine.QUENCHED);
        windowEdge(300, 301, TemperingLine.QUENCHED);
        windowEdge(301, 301, TemperingLine.HEATED);
        windowEdge(299, 299, TemperingLine.SPOILED);
    }

    private static void windowEdge(int low, int high, int due) {
        TemperingLine x = Due.line("line 1 0;zone 300 1 999 " + low + " " + high + ";heat 1000;");
        Due.add(x, 2);
        x.run(2);
        Due.is("temperature(0)", x.temperature(0), 300);
        Due.is("state in " + low + " to " + high, x.state(0), due);
        Due.is("zone(0, 6)", x.zone(0, 6), due == TemperingLine.HEATED ? 0 : -1);
        Due.is("quenched()", x.quenched(), due == TemperingLine.QUENCHED ? 0 : -1);
    }

    private static void correctionShiftsTheLastWindowOnly() {
        for (int correction = -50; correction <= 50; correction += 50) {
            TemperingLine x = Due.line("line 1 0;zone 300 1 999 300 300;zone 301 1 999 "
                    + (301 + correction) + " " + (301 + correction) + ";heat 1000;");
            x.setCorrection(2, -correction);
            x.setCorrection(3, 1);
            Due.add(x, 2);
            Due.add(x, 3);
            x.run(4);
            Due.is("state(0)", x.state(0), TemperingLine.QUENCHED);
            Due.is("zone(1, 3)", x.zone(1, 3), 301 + correction);
            Due.is("state(1)", x.state(1), correction < 0
                    ? TemperingLine.SPOILED : TemperingLine.HEATED);
        }
        TemperingLine low = Due.line("line 1 0;zone 300 1 999 20 20;heat 1;");
        low.setCorrection(2, -50);
        Due.add(low, 2);
        low.run(2);
        Due.is("above a window that ends at -30", low.state(0), TemperingLine.SPOILED);
        TemperingLine high = Due.line("line 1 0;zone 900 1 999 900 900;heat 1000;");
        high.setCorrection(2, 50);
        Due.add(high, 2);
        high.run(60);
        Due.is("below a window that begins at 950", high.state(0), TemperingLine.HEATED);
    }

    /** A sheet inside its window waits for the next place, and is spoiled if it gets too hot. */
    private static void blockedByTheNext() {
        TemperingLine x = Due.line("line 9 0;zone 300 9 999 50 290;heat 100;");
        Due.add(x, 19);
        Due.add(x, 2);
        x.run(3);
        Due.is("temperature(0)", x.temperature(0), 73);
        Due.is("quenchLeft()", x.quenchLeft(), 171);
        Due.is("state(1)", x.state(1), TemperingLine.HEATED);
        x.run(9);
        Due.is("temperature(1)", x.temperature(1) > 50 ? 1 : 0, 1);
        Due.is("state(1)", x.state(1), TemperingLine.HEATED);
        x.run(60);
        Due.is("too hot", x.state(1), TemperingLine.SPOILED);
        Due.is("the zone is free", x.zone(0, 6), -1);
        Due.is("it cools no more", x.temperature(1), 291);
        Due.is("state(0)", x.state(0), TemperingLine.QUENCHED);
    }

    private static void learningIsLimited() {
        TemperingLine cold = Due.line("line 1 20;zone 300 99 999 20 900;band 2 800 900;heat 1000;");
        TemperingLine hot = Due.line("line 1 20;zone 300 99 999 20 900;band 2 20 30;heat 1000;");
        int[] due = {20, 40, 50, 50};
        for (int i = 0; i < 4; i++) {
            Due.add(cold, 2);
            Due.add(hot, 2);
            Due.is("run(10) cold", cold.run(10), 0);
            Due.is("run(10) hot", hot.run(10), 0);
            Due.is("correction up", cold.learned(2, 3), due[i]);
            Due.is("correction down", hot.learned(2, 3), -due[i]);
            Due.is("cold breaks", cold.learned(2, 1), i + 1);
            Due.is("hot breaks", hot.learned(2, 2), i + 1);
            Due.is("no hot breaks", cold.learned(2, 2), 0);
            Due.is("no cold breaks", hot.learned(2, 1), 0);
        }
        Due.is("other thicknesses learn nothing", cold.learned(3, 3), 0);
        // The correction that step (3) has learned counts in step (4) of the same tick.
        TemperingLine x = Due.line("line 1 20;zone 300 99 999 280 300;band 2 800 900;heat 1000;");
        Due.add(x, 2);
        Due.add(x, 2);
        x.run(3);
        Due.is("zone(0, 6)", x.zone(0, 6), 1);
        x.run(1);
        Due.is("state(0)", x.state(0), TemperingLine.BROKEN);
        Due.is("state(1) with a window from 300 to 320", x.state(1), TemperingLine.QUENCHED);
        TemperingLine y = Due.line("line 1 20;zone 300 99 999 280 300;band 2 20 30;heat 1000;");
        Due.add(y, 2);
        Due.add(y, 2);
        y.run(4);
        Due.is("state(1) with a window from 260 to 280", y.state(1), TemperingLine.SPOILED);
    }

    private static void bandEdges() {
        bandEdge(300, 300, TemperingLine.DONE);
        bandEdge(299, 300, TemperingLine.DONE);
        bandEdge(300, 301, TemperingLine.DONE);
        bandEdge(301, 301, TemperingLine.BROKEN);
        bandEdge(299, 299, TemperingLine.BROKEN);
    }

    private static void bandEdge(int low, int high, int due) {
        TemperingLine x = Due.line("line 1 5;zone 300 9 999 20 900;heat 1000;band 2 " + low + " "
                + high + ";");
        Due.add(x, 2);
        Due.is("run(4)", x.run(4), due == TemperingLine.DONE ? 1 : 0);
        Due.is("state with a band " + low + " to " + high, x.state(0), due);
        Due.is("correction", x.learned(2, 3), low > 300 ? 5 : high < 300 ? -5 : 0);
    }

    /** The first rise of a sheet of 7 mm in a zone of 420 degrees: 400 * h / 1000. */
    private static void heatValues() {
        heat("", 57);
        heat("heat 0;", 0);
        heat("heat 1000;", 1000);
        heat("heat 1001;", 1000);
        heat("heat 0-1;", 0);
        heat("heat 9999;", 1000);
        heat("heat thickness;", 7);
        heat("heat zone;", 0);
        heat("heat gap;", 400);
        heat("heat 400/thickness;", 57);
        heat("heat 1+2*3;", 7);
        heat("heat (1+2)*3;", 9);
        heat("heat 100-10-5;", 85);
        heat("heat 100/7*7;", 98);
        heat("heat 100/(7*7);", 2);
        heat("heat 100*7/8;", 87);
        heat("heat 100-(10-5);", 95);
        heat("heat 5/0+3;", 3);
        heat("heat 5/zone*9+gap/(3-3)+4;", 4);
        heat("heat (0-7)/2+10;", 7);
        heat("heat 10+7/(0-2);", 7);
        heat("heat 9999*9999/5000;", 200);
        heat("heat 9999*9999*9999/5000;", 200);
        heat("heat (0-9999)*9999/5000+250;", 50);
        heat("heat (0-9999)*9999*(0-1)/5000;", 200);
        heat("heat 1000*1000/5000;", 200);
        heat("heat (1000*1000+1)/5000-(1000*1000+4999)/5000;", 0);
        heat("heat (1000*1000+1-1000*999)/10;", 100);
        heat("heat 1000*1000+9999-9000*111;", 1000);
        heat("heat 1000*1000+9999-9999*100;", 100);
        heat("heat 0-1000*1000-9999+9999*100+200;", 100);
        heat("heat ((((1+2)*3)-4)*5)-thickness;", 18);
        heat("heat 2*(3+4*(5-6/(7-5)));", 22);
        heat("heat 1-2*(3-4*(5-6*(7-8)-9)+2)+1;", 8);
        heat("heat 00012;", 12);
        heat("heat 999;", 999);
        heat("heat 1+2*(1+2*(1+2*(1+2*(1+2*3))));", 127);
        TemperingLine x = Due.line("line 1 0;zone 220 99 999 20 900;zone 900 99 999 20 900;"
                + "heat zone*500+gap;");
        Due.add(x, 2);
        x.run(2);
        Due.is("heat in zone 0", x.temperature(0), 20 + 200 * 200 / 1000);
        x.run(1);
        Due.is("heat in zone 1 is limited", x.temperature(0), 900);
    }

    private static void heat(String statement, int due) {
        TemperingLine x = Due.line("line 1 0;zone 420 99 500 20 900;" + statement);
        Due.add(x, 7);
        x.run(2);
        int rise = 400 * due / 1000;
        Due.is("temperature after " + statement, x.temperature(0), 20 + rise);
        Due.is("zone after " + statement, x.zone(0, 5), 420 - rise * 7 / 500);
    }
}
