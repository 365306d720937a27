/** Promises 27 and 28. */
final class UndoTest {
    private static final String TEXT = "line 2 9;zone 300 9 30 60 900;zone 420 7 50 100 900;"
            + "band 4 20 30;heat 500;";

    public static void main(String[] args) {
        atMostEight();
        everyKindOfChange();
        breaksAreUndone();
        changesWithoutEffect();
        loadIsUndone();
        afterUndo();
        checksum();
        checksumWraps();
        Due.report();
    }

    private static void atMostEight() {
        TemperingLine x = Due.line(TEXT);
        long[] sums = new long[13];
        for (int i = 0; i < 12; i++) {
            sums[i] = x.checksum();
            x.setCorrection(2 + i, i + 1);
        }
        for (int left = 7; left >= 0; left--) {
            Due.is("undo()", x.undo(), left);
            Due.is("checksum()", x.checksum(), sums[left + 4]);
        }
        Due.is("undo() of none", x.undo(), -1);
        Due.is("undo() of none", x.undo(), -1);
        Due.is("checksum()", x.checksum(), sums[4]);
        Due.is("learned(5, 3)", x.learned(5, 3), 4);
        Due.is("learned(6, 3)", x.learned(6, 3), 0);
        x.setCorrection(2, 9);
        Due.is("undo()", x.undo(), 0);
        Due.is("checksum()", x.checksum(), sums[4]);
        Due.is("undo()", x.undo(), -1);
    }

    private static void everyKindOfChange() {
        TemperingLine x = Due.line(TEXT);
        long[] sums = new long[8];
        sums[0] = x.checksum();
        Due.add(x, 4);
        sums[1] = x.checksum();
        x.run(2);
        sums[2] = x.checksum();
        x.setPoint(1, 500);
        sums[3] = x.checksum();
        x.setCorrection(4, 3);
        sums[4] = x.checksum();
        Due.add(x, 9);
        sums[5] = x.checksum();
        x.run(60);
        sums[6] = x.checksum();
        Due.is("learned(4, 2)", x.learned(4, 2), 1);
        Due.is("learned(4, 3)", x.learned(4, 3), -6);
        Due.add(x, 5);
        x.scrap(2);
        for (int i = 7; i >= 6; i--) {
            Due.is("undo()", x.undo(), i);
        }
        Due.is("sheetCount()", x.sheetCount(), 2);
        for (int i = 6; i >= 1; i--) {
            Due.is("checksum()", x.checksum(), sums[i]);
            Due.is("undo()", x.undo(), i - 1);
        }
        Due.is("checksum()", x.checksum(), sums[0]);
        Due.is("the load is the ninth and stays", x.undo(), -1);
        Due.is("zoneCount()", x.zoneCount(), 2);
        Due.is("learned(4, 2)", x.learned(4, 2), 0);
        Due.is("quenched()", x.quenched(), -1);
    }

    private static void breaksAreUndone() {
        TemperingLine x = Due.line("line 1 9;zone 500 9 999 60 900;band 3 890 900;band 4 20 30;"
                + "heat 900;");
        for (int t = 2; t <= 5; t++) {
            Due.add(x, t);
        }
        long sum = x.checksum();
        x.run(60);
        Due.is("learned(2, 0)", x.learned(2, 0), 1);
        Due.is("learned(3, 1)", x.learned(3, 1), 1);
        Due.is("learned(3, 3)", x.learned(3, 3), 9);
        Due.is("learned(4, 2)", x.learned(4, 2), 1);
        Due.is("learned(4, 3)", x.learned(4, 3), -9);
        Due.is("checksum()", x.checksum(), sum(x));
        Due.is("undo()", x.undo(), 5);
        Due.is("checksum()", x.checksum(), sum);
        for (int t = 2; t <= 5; t++) {
            for (int what = 0; what <= 3; what++) {
                Due.is("learned(" + t + ", " + what + ")", x.learned(t, what), 0);
            }
        }
    }

    private static void changesWithoutEffect() {
        TemperingLine x = Due.line(TEXT);
        x.setPoint(0, 300);
        x.setCorrection(4, 0);
        long sum = x.checksum();
        Due.is("undo()", x.undo(), 2);
        Due.is("undo()", x.undo(), 1);
        Due.is("checksum()", x.checksum(), sum);
        Due.is("undo()", x.undo(), 0);
        Due.is("zoneCount()", x.zoneCount(), 0);
        Due.is("undo()", x.undo(), -1);
    }

    private static void loadIsUndone() {
        TemperingLine x = Due.line(TEXT);
        Due.add(x, 4);
        x.run(3);
        long sum = x.checksum();
        int guard = x.guard(5);
        int finish = x.finishTime(300);
        Due.is("load", Due.load(x, "line 1 0;zone 100 1 1 20 20;band 7 50 60;"), 1);
        Due.is("learned(7, 4)", x.learned(7, 4), 50);
        Due.is("learned(4, 4)", x.learned(4, 4), -1);
        Due.append(x, "line 1 0;zone 100 1 1 20 20;");
        Due.is("a load with an error", x.load(5), TemperingLine.SYNTAX_ERROR);
        Due.append(x, "line 1 0;zone 100 1 1 20 20;");
        Due.is("undo()", x.undo(), 3);
        Due.is("errorOffset() is not affected", x.errorOffset(), 5);
        Due.is("checksum()", x.checksum(), sum);
        Due.is("zone(1, 4)", x.zone(1, 4), 900);
        Due.is("zone(0, 2)", x.zone(0, 2), 30);
        Due.is("learned(7, 4)", x.learned(7, 4), -1);
        Due.is("learned(4, 4)", x.learned(4, 4), 20);
        Due.is("guard(5) with the former heat", x.guard(5), guard);
        Due.is("finishTime(300)", x.finishTime(300), finish);
        Due.is("the input buffer is not affected", x.load(28), 1);
        Due.is("undo()", x.undo(), 3);
        Due.is("undo()", x.undo(), 2);
        Due.is("undo()", x.undo(), 1);
        Due.is("undo()", x.undo(), 0);
        Due.is("zoneCount()", x.zoneCount(), 0);
        Due.state("add without a line", () -> x.add(5, 50));
        Due.is("guard(5) without a line", x.guard(5), -1);
        Due.is("undo()", x.undo(), -1);
        Due.is("checksum() of no line", x.checksum(), new TemperingLine().checksum());
    }

    private static void afterUndo() {
        TemperingLine x = Due.line(TEXT);
        for (int i = 1; i <= 10; i++) {
            x.setCorrection(2, i);
        }
        Due.is("undo()", x.undo(), 7);
        Due.is("undo()", x.undo(), 6);
        Due.is("undo()", x.undo(), 5);
        x.setCorrection(2, 40);
        Due.is("undo()", x.undo(), 5);
        Due.is("learned(2, 3)", x.learned(2, 3), 7);
        for (int left = 4; left >= 0; left--) {
            Due.is("undo()", x.undo(), left);
        }
        Due.is("learned(2, 3)", x.learned(2, 3), 2);
        Due.is("undo()", x.undo(), -1);
    }

    private static void checksum() {
        TemperingLine x = Due.line(TEXT);
        Due.is("checksum()", x.checksum(), sum(x));
        for (int i = 0; i < 6; i++) {
            Due.add(x, 2 + i);
        }
        for (int i = 0; i < 80; i++) {
            x.run(1);
            if (i == 9) {
                x.scrap(5);
                x.setPoint(1, 600);
                x.setCorrection(19, -50);
            }
            Due.is("checksum()", x.checksum(), sum(x));
        }
        TemperingLine small = Due.line("line 1 0;zone 100 1 1 20 20;");
        long head = 100 * 31 + 100;
        head = head * 31 - 1;
        head = head * 31 - 1;
        head = head * 31;
        for (int i = 0; i < 72; i++) {
            head = head * 31;
        }
        Due.is("checksum()", small.checksum(), head);
    }

    private static void checksumWraps() {
        TemperingLine x = Due.line(TEXT);
        TemperingLine y = Due.line(TEXT);
        x.setCorrection(2, 1);
        y.setCorrection(19, 1);
        Due.is("the last number of all", y.checksum() - Due.line(TEXT).checksum(), 1);
        long power = 1;
        for (int i = 0; i < 68; i++) {
            power *= 31;
        }
        Due.is("the first correction", x.checksum() - Due.line(TEXT).checksum(), power);
    }

    private static long sum(TemperingLine x) {
        long sum = x.clock();
        for (int z = 0; z < x.zoneCount(); z++) {
            sum = 31 * sum + x.zone(z, 0);
            sum = 31 * sum + x.zone(z, 5);
            sum = 31 * sum + x.zone(z, 6);
        }
        sum = 31 * (31 * sum + x.quenched()) + x.quenchLeft();
        for (int s = 0; s < x.sheetCount(); s++) {
            sum = 31 * sum + x.thickness(s);
            sum = 31 * sum + x.temperature(s);
            sum = 31 * sum + x.state(s);
        }
        for (int t = 2; t <= 19; t++) {
            for (int what = 0; what <= 3; what++) {
                sum = 31 * sum + x.learned(t, what);
            }
        }
        return sum;
    }
}
