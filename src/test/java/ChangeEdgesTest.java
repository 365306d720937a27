import java.util.Arrays;

/**
 * Each sentence of the document that names an edge of a change, with a test of its own: promises
 * 22 to 27, 'Changes', and the calls that are refused.
 */
final class ChangeEdgesTest {
    private static final int WAITING = TemperingLine.WAITING;
    private static final int HEATED = TemperingLine.HEATED;
    private static final int DONE = TemperingLine.DONE;
    private static final int BROKEN = TemperingLine.BROKEN;
    private static final int SPOILED = TemperingLine.SPOILED;
    private static final int MIN = Integer.MIN_VALUE;
    private static final int MAX = Integer.MAX_VALUE;
    private static final String FAST = "line 1 0;zone 300 99 999 20 900;heat 1000;";

    public static void main(String[] args) {
        addArguments();
        addThickness();
        addTwenty();
        addIndexes();
        runTicks();
        runCountsDone();
        setPointArguments();
        setPointReturnsThePrevious();
        setCorrectionArguments();
        setCorrectionReturnsThePrevious();
        scrapByState();
        scrapLeavesItsZone();
        undoOfNone();
        undoOfEight();
        undoRestoresEverything();
        undoOfTheNinth();
        undoAfterNewChanges();
        undoOfTheFirstLoad();
        undoOfChangesWithoutEffect();
        undoLeavesBufferAndOffset();
        noChangeIsUndone();
        refusedCalls();
        firstListedException();
        Due.report();
    }

    /** "IllegalArgumentException if weight or area is out of range": of add. */
    private static void addArguments() {
        TemperingLine x = Due.line(FAST);
        for (int wrong : new int[] {MIN, -1, 0, 10000, MAX}) {
            Due.argument("add(" + wrong + ", 50)", () -> x.add(wrong, 50));
            Due.argument("add(5, " + wrong + ")", () -> x.add(5, wrong));
        }
        Due.argument("add(500, 10000), of 2 mm", () -> x.add(500, 10000));
        Due.argument("add(107374183, 9), of 3 mm if it wraps around", () -> x.add(107374183, 9));
        Due.argument("add(10000, 9999), of 40 mm", () -> x.add(10000, 9999));
        Due.is("add(500, 9999)", x.add(500, 9999), 0);
        Due.is("add(1, 20)", x.add(1, 20), 1);
    }

    /** "or if the thickness is not 2 to 19". */
    private static void addThickness() {
        TemperingLine x = Due.line(FAST);
        Due.argument("add(1, 40), of 1 mm", () -> x.add(1, 40));
        Due.argument("add(20, 40), of 20 mm", () -> x.add(20, 40));
        Due.argument("add(1, 9999), of 0 mm", () -> x.add(1, 9999));
        Due.argument("add(9999, 1)", () -> x.add(9999, 1));
        Due.is("sheetCount()", x.sheetCount(), 0);
        Due.is("add(2, 40)", x.add(2, 40), 0);
        Due.is("add(19, 40)", x.add(19, 40), 1);
        Due.is("thickness(0)", x.thickness(0), 2);
        Due.is("thickness(1)", x.thickness(1), 19);
    }

    /** "There are at most 20 sheets"; "if there have been 20 sheets". */
    private static void addTwenty() {
        TemperingLine x = Due.line(FAST);
        for (int i = 0; i < 20; i++) {
            Due.is("add", Due.add(x, 2), i);
        }
        Due.state("the 21st add", () -> Due.add(x, 2));
        x.scrap(19);
        Due.state("the 21st add after a scrap", () -> Due.add(x, 2));
        x.run(60);
        Due.state("the 21st add after all have ended", () -> Due.add(x, 2));
        x.undo();
        x.undo();
        Due.state("the 21st add after undo", () -> Due.add(x, 2));
        x.undo();
        Due.is("the 20th add again", Due.add(x, 3), 19);
        Due.state("the 21st add again", () -> Due.add(x, 2));
        Due.load(x, FAST);
        Due.is("add after load", Due.add(x, 2), 0);
    }

    /** "sheets from 0 in the order in which they are added". */
    private static void addIndexes() {
        TemperingLine x = Due.line(FAST);
        Due.is("add", Due.add(x, 19), 0);
        x.scrap(0);
        Due.is("the next add after a scrap", Due.add(x, 2), 1);
        x.undo();
        Due.is("the next add after undo", Due.add(x, 3), 1);
        Due.is("thickness(0)", x.thickness(0), 19);
        Due.is("thickness(1)", x.thickness(1), 3);
        Due.is("state(0)", x.state(0), SPOILED);
        Due.is("state(1)", x.state(1), WAITING);
        // A sheet takes the place of one that was undone when it was hot and had ended.
        x.run(60);
        Due.is("state(1)", x.state(1), DONE);
        x.undo();
        x.undo();
        Due.is("add", Due.add(x, 3), 1);
        Due.is("temperature(1)", x.temperature(1), 20);
        Due.is("state(1)", x.state(1), WAITING);
    }

    /** "ticks: 1 to 60". */
    private static void runTicks() {
        TemperingLine x = Due.line(FAST);
        Due.is("run(1)", x.run(1), 0);
        Due.is("run(60)", x.run(60), 0);
        Due.is("clock()", x.clock(), 61);
        for (int ticks : new int[] {MIN, -1, 0, 61, MAX}) {
            Due.argument("run(" + ticks + ")", () -> x.run(ticks));
        }
        Due.is("clock()", x.clock(), 61);
    }

    /** "the number of sheets that became DONE in these ticks". */
    private static void runCountsDone() {
        TemperingLine x = Due.line(FAST + "band 3 20 20;");
        Due.add(x, 2);
        Due.add(x, 3);
        Due.add(x, 2);
        Due.is("run(3)", x.run(3), 0);
        Due.is("run(1), the last tick of sheet 0", x.run(1), 1);
        Due.is("run(4), in which sheet 1 is BROKEN", x.run(4), 0);
        Due.is("state(1)", x.state(1), BROKEN);
        Due.is("run(60)", x.run(60), 1);
        Due.is("run(60)", x.run(60), 0);
        Due.is("count(DONE)", x.count(DONE), 2);
        TemperingLine all = Due.line(FAST);
        for (int i = 0; i < 20; i++) {
            Due.add(all, 2);
        }
        Due.is("run(42) of 20 sheets", all.run(42), 20);
    }

    /** "if there is no such zone"; "setpoint: 100 to 900". */
    private static void setPointArguments() {
        TemperingLine x = Due.line("line 1 0;zone 300 1 1 20 20;zone 400 1 1 20 20;");
        Due.is("setPoint(0, 100)", x.setPoint(0, 100), 300);
        Due.is("setPoint(1, 900)", x.setPoint(1, 900), 400);
        for (int zone : new int[] {MIN, -1, 2, 5, 6, MAX}) {
            Due.index("setPoint(" + zone + ", 500)", () -> x.setPoint(zone, 500));
        }
        for (int setpoint : new int[] {MIN, -100, 0, 99, 901, MAX}) {
            Due.argument("setPoint(0, " + setpoint + ")", () -> x.setPoint(0, setpoint));
            Due.argument("setPoint(1, " + setpoint + ")", () -> x.setPoint(1, setpoint));
        }
    }

    /** "Returns the previous setpoint"; "Its temperature stays". */
    private static void setPointReturnsThePrevious() {
        TemperingLine x = Due.line("line 1 0;zone 300 1 1 20 20;");
        Due.is("setPoint(0, 900)", x.setPoint(0, 900), 300);
        Due.is("setPoint(0, 900)", x.setPoint(0, 900), 900);
        Due.is("setPoint(0, 100)", x.setPoint(0, 100), 900);
        Due.is("zone(0, 0)", x.zone(0, 0), 100);
        Due.is("zone(0, 5)", x.zone(0, 5), 300);
    }

    /** "thickness: 2 to 19", "correction: -50 to 50". */
    private static void setCorrectionArguments() {
        TemperingLine x = Due.line(FAST);
        Due.is("setCorrection(2, -50)", x.setCorrection(2, -50), 0);
        Due.is("setCorrection(2, 50)", x.setCorrection(2, 50), -50);
        Due.is("setCorrection(19, 50)", x.setCorrection(19, 50), 0);
        Due.is("setCorrection(19, -50)", x.setCorrection(19, -50), 50);
        for (int t : new int[] {MIN, -1, 0, 1, 20, MAX}) {
            Due.argument("setCorrection(" + t + ", 0)", () -> x.setCorrection(t, 0));
        }
        for (int correction : new int[] {MIN, -51, 51, MAX}) {
            Due.argument("setCorrection(2, " + correction + ")",
                    () -> x.setCorrection(2, correction));
        }
    }

    /** "Returns the previous correction": also one that was learned. */
    private static void setCorrectionReturnsThePrevious() {
        TemperingLine x = Due.line("line 1 7;zone 300 99 999 20 900;band 2 900 900;heat 1000;");
        Due.add(x, 2);
        x.run(4);
        Due.is("setCorrection(2, 1)", x.setCorrection(2, 1), 7);
        Due.is("setCorrection(2, 1)", x.setCorrection(2, 1), 1);
        Due.is("learned(2, 3)", x.learned(2, 3), 1);
        Due.is("learned(3, 3)", x.learned(3, 3), 0);
    }

    /** "Scraps a sheet that is WAITING or HEATED"; "if it has another state". */
    private static void scrapByState() {
        TemperingLine x = new TemperingLine();
        Due.story(x);
        boolean[] seen = new boolean[6];
        for (int s = 0; s < x.sheetCount(); s++) {
            int sheet = s;
            int state = x.state(s);
            seen[state] = true;
            if (state == WAITING || state == HEATED) {
                Due.is("scrap(" + s + ")", x.scrap(s), state);
                Due.is("state(" + s + ")", x.state(s), SPOILED);
                Due.state("scrap(" + s + ") again", () -> x.scrap(sheet));
            } else {
                Due.state("scrap(" + s + ") of state " + state, () -> x.scrap(sheet));
                Due.is("state(" + s + ")", x.state(s), state);
            }
        }
        for (int state = 0; state <= 5; state++) {
            Due.is("a sheet of state " + state, seen[state] ? 1 : 0, 1);
        }
    }

    /** "it is SPOILED and leaves its zone": its own zone and no other. */
    private static void scrapLeavesItsZone() {
        TemperingLine x = Due.line("line 1 0;zone 300 99 999 20 900;zone 300 99 999 900 900;"
                + "heat 1000;");
        Due.add(x, 2);
        Due.add(x, 2);
        Due.add(x, 2);
        x.run(5);
        Due.is("scrap(2)", x.scrap(2), WAITING);
        Due.is("zone(0, 6)", x.zone(0, 6), 1);
        Due.is("zone(1, 6)", x.zone(1, 6), 0);
        Due.is("scrap(0)", x.scrap(0), HEATED);
        Due.is("zone(0, 6)", x.zone(0, 6), 1);
        Due.is("zone(1, 6)", x.zone(1, 6), -1);
        Due.is("temperature(0)", x.temperature(0), 300);
        Due.is("clock()", x.clock(), 5);
    }

    /** "-1 if there was none to undo, and nothing changes then". */
    private static void undoOfNone() {
        TemperingLine x = new TemperingLine();
        long[] before = Due.view(x);
        Due.is("undo()", x.undo(), -1);
        Due.is("undo()", x.undo(), -1);
        Due.is("nothing has changed", same(before, Due.view(x)), 1);
        TemperingLine y = new TemperingLine();
        Due.story(y);
        for (int left = 7; left >= 0; left--) {
            Due.is("undo()", y.undo(), left);
        }
        before = Due.view(y);
        Due.is("undo()", y.undo(), -1);
        Due.is("undo()", y.undo(), -1);
        Due.is("nothing has changed", same(before, Due.view(y)), 1);
    }

    /** "The latest 8 changes ... can be undone, the latest one first": all of 8. */
    private static void undoOfEight() {
        TemperingLine x = Due.line(FAST);
        for (int i = 1; i <= 7; i++) {
            x.setCorrection(2, i);
        }
        for (int left = 7; left >= 1; left--) {
            Due.is("learned(2, 3)", x.learned(2, 3), left);
            Due.is("undo()", x.undo(), left);
        }
        Due.is("learned(2, 3)", x.learned(2, 3), 0);
        Due.is("zoneCount()", x.zoneCount(), 1);
        Due.is("undo() of the load", x.undo(), 0);
        Due.is("zoneCount()", x.zoneCount(), 0);
        Due.is("undo()", x.undo(), -1);
    }

    /** All that a change can alter is as it was before it, after each undo of 8. */
    private static void undoRestoresEverything() {
        Made[] changes = {x -> Due.add(x, 3), x -> Due.add(x, 4), x -> Due.add(x, 5),
            x -> x.run(60), x -> x.scrap(10), x -> x.run(60), x -> x.setPoint(0, 640),
            x -> Due.load(x, "line 9 0;zone 900 9 9 30 40;band 7 50 60;")};
        long[][] views = new long[changes.length][];
        TemperingLine x = new TemperingLine();
        Due.story(x);
        for (int i = 0; i < changes.length; i++) {
            views[i] = Due.view(x);
            if (i == 7) {
                Due.is("passed sheets", x.learned(6, 0), 1);
                Due.is("hot breaks", x.learned(3, 2), 2);
                Due.is("cold breaks", x.learned(4, 1), 2);
            }
            changes[i].on(x);
        }
        for (int i = changes.length - 1; i >= 0; i--) {
            Due.is("undo()", x.undo(), i);
            Due.is("all as before change " + i, same(views[i], Due.view(x)), 1);
        }
    }

    private static int same(long[] before, long[] after) {
        return Arrays.equals(before, after) ? 1 : 0;
    }

    /** The same of 9 and more: the oldest ones stay. */
    private static void undoOfTheNinth() {
        for (int changes = 8; changes <= 25; changes++) {
            TemperingLine x = Due.line(FAST);
            for (int i = 1; i <= changes; i++) {
                x.setCorrection(2, i);
            }
            for (int left = 7; left >= 0; left--) {
                Due.is("undo()", x.undo(), left);
                Due.is("learned(2, 3)", x.learned(2, 3), changes - 8 + left);
            }
            Due.is("undo()", x.undo(), -1);
            Due.is("learned(2, 3)", x.learned(2, 3), changes - 8);
            Due.is("zoneCount()", x.zoneCount(), 1);
        }
    }

    /** "changes that have not been undone": undone ones make room, and do not come back. */
    private static void undoAfterNewChanges() {
        TemperingLine x = Due.line(FAST);
        for (int i = 1; i <= 8; i++) {
            x.setCorrection(2, i);
        }
        for (int left = 7; left >= 5; left--) {
            Due.is("undo()", x.undo(), left);
        }
        for (int i = 11; i <= 13; i++) {
            x.setCorrection(2, i);
        }
        int[] due = {12, 11, 5, 4, 3, 2, 1, 0};
        for (int i = 0; i < due.length; i++) {
            Due.is("undo()", x.undo(), 7 - i);
            Due.is("learned(2, 3)", x.learned(2, 3), due[i]);
        }
        Due.is("undo()", x.undo(), -1);
        x.setCorrection(2, 21);
        Due.is("undo() of one after none", x.undo(), 0);
        Due.is("learned(2, 3)", x.learned(2, 3), 0);
    }

    /** "Before the first successful load there is no line": nor after it is undone. */
    private static void undoOfTheFirstLoad() {
        TemperingLine x = Due.line(FAST + "band 2 30 40;");
        Due.is("undo()", x.undo(), 0);
        Due.sameView("after the first load is undone", x, new TemperingLine());
        Due.state("add", () -> x.add(5, 50));
        Due.state("run", () -> x.run(1));
        Due.state("setCorrection", () -> x.setCorrection(2, 0));
        Due.index("setPoint", () -> x.setPoint(0, 500));
        Due.index("scrap", () -> x.scrap(0));
        Due.is("load", Due.load(x, FAST), 1);
        Due.is("undo()", x.undo(), 0);
    }

    /** "is a change, also if all data stay as they were". */
    private static void undoOfChangesWithoutEffect() {
        TemperingLine x = Due.line(FAST);
        Due.load(x, FAST);
        x.setPoint(0, 300);
        x.setCorrection(2, 0);
        for (int left = 3; left >= 0; left--) {
            Due.is("undo()", x.undo(), left);
        }
        Due.is("zoneCount()", x.zoneCount(), 0);
    }

    /** "The input buffer and the error offset are not affected." */
    private static void undoLeavesBufferAndOffset() {
        TemperingLine x = Due.line(FAST);
        Due.load(x, "line 1 0;zone 99");
        Due.append(x, FAST);
        Due.is("undo()", x.undo(), 0);
        Due.is("errorOffset()", x.errorOffset(), 14);
        Due.is("append", x.append(0, 0, 0, 0, 0), 80);
        Due.is("load", x.load(FAST.length()), 1);
        Due.is("undo()", x.undo(), 0);
        Due.is("errorOffset()", x.errorOffset(), -1);
        Due.argument("load(1): the buffer is not filled again", () -> x.load(1));
    }

    /** Only the changing methods change: neither reading nor append, a failed load or undo. */
    private static void noChangeIsUndone() {
        TemperingLine x = Due.line(FAST);
        Due.add(x, 2);
        long[] before = Due.view(x);
        x.append(0, 0, 0, 0, 0);
        x.load(0);
        x.recognise(5, 50);
        x.guard(2);
        x.finishTime(300);
        x.stateAfter(0, 300);
        x.bestSetpoint();
        Due.is("nothing has changed", same(before, Due.view(x)), 1);
        Due.is("undo()", x.undo(), 1);
        Due.is("sheetCount()", x.sheetCount(), 0);
        Due.is("undo()", x.undo(), 0);
    }

    /** A call of the class whose answer does not matter. */
    private interface Made {
        void on(TemperingLine x);
    }

    private static void refused(String call, Class<? extends Exception> want, Made start,
            Made made) {
        TemperingLine x = new TemperingLine();
        TemperingLine twin = new TemperingLine();
        for (TemperingLine each : new TemperingLine[] {x, twin}) {
            start.on(each);
            Due.append(each, "line 1 0;");
        }
        Due.thrown(call, want, () -> {
            made.on(x);
            return 0;
        });
        Due.alike("after " + call, x, twin, true);
    }

    /** "A method that throws an exception changes nothing." */
    private static void refusedCalls() {
        Class<IllegalArgumentException> argument = IllegalArgumentException.class;
        Class<IndexOutOfBoundsException> index = IndexOutOfBoundsException.class;
        Class<IllegalStateException> state = IllegalStateException.class;
        Made none = x -> { };
        Made full = x -> {
            Due.story(x);
            for (int i = 8; i < 20; i++) {
                Due.add(x, 2);
            }
        };
        for (Made start : new Made[] {none, Due::story, full}) {
            refused("load(-1)", argument, start, x -> x.load(-1));
            refused("load(21)", argument, start, x -> x.load(21));
            refused("zone(-1, 0)", index, start, x -> x.zone(-1, 0));
            refused("thickness(20)", index, start, x -> x.thickness(20));
            refused("temperature(20)", index, start, x -> x.temperature(20));
            refused("state(20)", index, start, x -> x.state(20));
            refused("count(6)", argument, start, x -> x.count(6));
            refused("learned(2, 6)", argument, start, x -> x.learned(2, 6));
            refused("risk(1)", argument, start, x -> x.risk(1));
            refused("recognise(0, 1)", argument, start, x -> x.recognise(0, 1));
            refused("guard(20)", argument, start, x -> x.guard(20));
            refused("finishTime(301)", argument, start, x -> x.finishTime(301));
            refused("stateAfter(20, 0)", index, start, x -> x.stateAfter(20, 0));
            refused("add(0, 50)", argument, start, x -> x.add(0, 50));
            refused("add(1, 9999)", argument, start, x -> x.add(1, 9999));
            refused("run(61)", argument, start, x -> x.run(61));
            refused("setPoint(6, 500)", index, start, x -> x.setPoint(6, 500));
            refused("setCorrection(20, 0)", argument, start, x -> x.setCorrection(20, 0));
            refused("setCorrection(2, 51)", argument, start, x -> x.setCorrection(2, 51));
            refused("scrap(20)", index, start, x -> x.scrap(20));
        }
        for (Made start : new Made[] {Due::story, full}) {
            refused("zone(0, 7)", argument, start, x -> x.zone(0, 7));
            refused("stateAfter(0, 301)", argument, start, x -> x.stateAfter(0, 301));
            refused("setPoint(0, 901)", argument, start, x -> x.setPoint(0, 901));
            refused("scrap(0)", state, start, x -> x.scrap(0));
        }
        refused("add(5, 50)", state, none, x -> x.add(5, 50));
        refused("add(5, 50)", state, full, x -> x.add(5, 50));
        refused("run(1)", state, none, x -> x.run(1));
        refused("setCorrection(2, 0)", state, none, x -> x.setCorrection(2, 0));
    }

    /** "If several exceptions apply to a call, the one that is listed first ... is thrown." */
    private static void firstListedException() {
        TemperingLine none = new TemperingLine();
        TemperingLine full = Due.line(FAST);
        for (int i = 0; i < 20; i++) {
            Due.add(full, 2);
        }
        Due.index("zone(1, 7)", () -> full.zone(1, 7));
        Due.index("zone(-1, -1)", () -> full.zone(-1, -1));
        Due.index("zone(0, 7) without a line", () -> none.zone(0, 7));
        Due.index("stateAfter(20, 301)", () -> full.stateAfter(20, 301));
        Due.index("stateAfter(-1, -1)", () -> full.stateAfter(-1, -1));
        Due.index("stateAfter(0, 301) without a line", () -> none.stateAfter(0, 301));
        Due.argument("add(0, 50) without a line", () -> none.add(0, 50));
        Due.argument("add(5, 10000) without a line", () -> none.add(5, 10000));
        Due.argument("add(1, 9999) without a line", () -> none.add(1, 9999));
        Due.argument("add(0, 50) of a full line", () -> full.add(0, 50));
        Due.argument("add(1, 9999) of a full line", () -> full.add(1, 9999));
        Due.argument("run(0) without a line", () -> none.run(0));
        Due.argument("run(61) without a line", () -> none.run(61));
        Due.index("setPoint(1, 901)", () -> full.setPoint(1, 901));
        Due.index("setPoint(0, 99) without a line", () -> none.setPoint(0, 99));
        Due.argument("setCorrection(1, 0) without a line", () -> none.setCorrection(1, 0));
        Due.argument("setCorrection(2, -51) without a line", () -> none.setCorrection(2, -51));
        Due.index("scrap(0) without a line", () -> none.scrap(0));
    }
}
