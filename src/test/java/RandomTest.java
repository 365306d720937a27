import java.util.Random;

/** Long random runs of calls, each compared with the model; the seeds are fixed. */
final class RandomTest {
    private static final int RUNS = 700;
    private static final int CALLS = 512;
    private final Random random;
    private final TemperingLine x = new TemperingLine();
    private final Model model = new Model();
    private final String run;
    private int made = 0;
    private int lowestSetpoint = 100;

    private RandomTest(long seed) {
        random = new Random(seed);
        run = "run " + seed + ", call ";
    }

    public static void main(String[] args) {
        int runs = args.length > 0 ? Integer.parseInt(args[0]) : RUNS;
        int first = args.length > 1 ? Integer.parseInt(args[1]) : 0;
        for (int seed = first; seed < first + runs; seed++) {
            new RandomTest(seed).play();
        }
        Due.report();
    }

    private void play() {
        while (made < CALLS) {
            if (made == 0 || random.nextInt(90) == 0) {
                loadSome();
            }
            step();
            if (random.nextInt(4) == 0) {
                both("checksum");
            }
        }
    }

    private int upTo(int bound) {
        return random.nextInt(bound + 1);
    }

    private int between(int low, int high) {
        return low + random.nextInt(high - low + 1);
    }

    /** Mostly inside of the range, at times just outside or far away. */
    private int around(int low, int high) {
        switch (random.nextInt(24)) {
            case 0:
                return low - 1;
            case 1:
                return high + 1;
            case 2:
                return low;
            case 3:
                return high;
            case 4:
                return random.nextInt();
            default:
                return between(low, high);
        }
    }

    private void step() {
        int sheets = x.sheetCount();
        int zones = x.zoneCount();
        switch (random.nextInt(30)) {
            case 0, 1, 2, 3, 4:
                both("add", between(1, 40), between(10, 200));
                break;
            case 5:
                both("add", around(1, 9999), around(1, 9999));
                break;
            case 6, 7, 8, 9, 10:
                both("run", between(1, 9));
                break;
            case 11:
                both("run", around(1, 60));
                break;
            case 12, 13:
                both("setPoint", around(0, zones - 1 < 0 ? 0 : zones - 1), around(100, 900));
                break;
            case 14:
                both("setCorrection", around(2, 19), around(-50, 50));
                break;
            case 15:
                both("scrap", around(0, Math.max(0, sheets - 1)));
                break;
            case 16, 17:
                both("undo");
                break;
            case 18:
                both("guard", around(2, 19));
                break;
            case 19:
                both("finishTime", around(0, 300));
                break;
            case 20:
                both("stateAfter", around(0, Math.max(0, sheets - 1)), around(0, 300));
                break;
            case 21:
                both("bestSetpoint");
                break;
            default:
                read(sheets, zones);
                break;
        }
    }

    private void read(int sheets, int zones) {
        int sheet = around(0, Math.max(0, sheets - 1));
        switch (random.nextInt(14)) {
            case 0:
                both("zone", around(0, Math.max(0, zones - 1)), around(0, 6));
                break;
            case 1:
                both("thickness", sheet);
                break;
            case 2:
                both("temperature", sheet);
                break;
            case 3:
                both("state", sheet);
                break;
            case 4:
                both("quenched");
                break;
            case 5:
                both("quenchLeft");
                break;
            case 6:
                both("count", around(0, 5));
                break;
            case 7:
                both("learned", around(2, 19), around(0, 5));
                break;
            case 8:
                both("risk", around(2, 19));
                break;
            case 9:
                both("recognise", around(1, 9999), around(1, 9999));
                break;
            case 10:
                both("clock");
                break;
            case 11:
                both("zoneCount");
                break;
            case 12:
                both("sheetCount");
                break;
            default:
                both("errorOffset");
                break;
        }
    }

    private void loadSome() {
        String text = setup();
        if (random.nextInt(3) == 0) {
            text = spoilt(text);
        }
        if (text.length() > 700) {
            text = text.substring(0, 700);
        }
        byte[] all = Due.padded(text);
        for (int i = 0; i < all.length; i += 20) {
            both("append", Due.word(all, i), Due.word(all, i + 4), Due.word(all, i + 8),
                    Due.word(all, i + 12), Due.word(all, i + 16));
        }
        both("load", random.nextInt(8) == 0 ? around(0, all.length) : text.length());
        both("errorOffset");
    }

    private String setup() {
        StringBuilder text = new StringBuilder();
        text.append("line ").append(between(1, 9) / 3 + 1).append(' ').append(upTo(20)).append(';');
        int zones = random.nextInt(12) == 0 ? 7 : between(1, 6);
        boolean heat = random.nextInt(5) == 0;
        while (zones > 0) {
            switch (random.nextInt(5)) {
                case 0, 3, 4:
                    int low = between(20, 700);
                    text.append("band ").append(between(2, 19)).append(' ').append(low).append(' ')
                            .append(between(low, Math.min(900, low + 200))).append(';');
                    break;
                case 1:
                    if (!heat || random.nextInt(40) == 0) {
                        text.append("heat ").append(sum(0)).append(';');
                        heat = true;
                    }
                    break;
                default:
                    zones--;
                    zone(text);
                    break;
            }
        }
        return random.nextBoolean() ? text.toString() : text.toString().replace(";", " ; ");
    }

    private void zone(StringBuilder text) {
        int set = between(lowestSetpoint, 900);
        int low = between(20, Math.max(20, set - 40));
        lowestSetpoint = Math.min(800, Math.max(100, set - 100));
        text.append("zone ").append(set).append(' ').append(between(1, 99)).append(' ')
                .append(between(1, 999)).append(' ').append(low).append(' ')
                .append(between(low, 900)).append(';');
        if (random.nextInt(3) == 0) {
            lowestSetpoint = 100;
        }
    }

    private String sum(int depth) {
        if (depth == 0 && random.nextBoolean()) {
            return random.nextBoolean() ? "" + between(50, 900) : "4000/thickness/(zone+1)+gap/9";
        }
        StringBuilder text = new StringBuilder(term(depth));
        while (random.nextInt(3) == 0) {
            text.append(random.nextBoolean() ? "+" : " - ").append(term(depth));
        }
        return text.toString();
    }

    private String term(int depth) {
        StringBuilder text = new StringBuilder(factor(depth));
        while (random.nextInt(3) == 0) {
            text.append(random.nextBoolean() ? "*" : " / ").append(factor(depth));
        }
        return text.toString();
    }

    private String factor(int depth) {
        switch (random.nextInt(depth > 4 ? 6 : 8)) {
            case 0:
                return "thickness";
            case 1:
                return "zone";
            case 2:
                return "gap";
            case 3:
                return "" + between(0, 9999);
            case 4, 5:
                return "" + between(0, 20);
            default:
                return "(" + sum(depth + 1) + ")";
        }
    }

    /** A text with one place changed, left out or put in. */
    private String spoilt(String text) {
        int at = random.nextInt(text.length());
        int end = Math.min(text.length(), at + between(0, 3));
        String[] pieces = {"", " ", ";", "0", "9", "10000", "(", "((", ")", "+", "zone", "heat 1;",
            "gap", "\t", "a", "Z", "\u00e9", "line", "band 3 30 30;", "99", "(((((", "-", "/", "*"};
        return text.substring(0, at) + pieces[random.nextInt(pieces.length)] + text.substring(end);
    }

    private void both(String name, int... a) {
        made++;
        String want = outcome(() -> model.call(name, a));
        String got = outcome(() -> call(name, a));
        Due.is(run + made + " " + name + java.util.Arrays.toString(a) + " (" + got + ", due "
                + want + ")", got.equals(want) ? 1 : 0, 1);
    }

    private static String outcome(Due.Call call) {
        try {
            return Long.toString(call.answer());
        } catch (RuntimeException e) {
            return e.getClass().getSimpleName();
        }
    }

    private long call(String name, int... a) {
        return switch (name) {
            case "append" -> x.append(a[0], a[1], a[2], a[3], a[4]);
            case "load" -> x.load(a[0]);
            case "errorOffset" -> x.errorOffset();
            case "zoneCount" -> x.zoneCount();
            case "sheetCount" -> x.sheetCount();
            case "clock" -> x.clock();
            case "zone" -> x.zone(a[0], a[1]);
            case "thickness" -> x.thickness(a[0]);
            case "temperature" -> x.temperature(a[0]);
            case "state" -> x.state(a[0]);
            case "quenched" -> x.quenched();
            case "quenchLeft" -> x.quenchLeft();
            case "count" -> x.count(a[0]);
            case "learned" -> x.learned(a[0], a[1]);
            case "risk" -> x.risk(a[0]);
            case "recognise" -> x.recognise(a[0], a[1]);
            case "guard" -> x.guard(a[0]);
            case "finishTime" -> x.finishTime(a[0]);
            case "stateAfter" -> x.stateAfter(a[0], a[1]);
            case "bestSetpoint" -> x.bestSetpoint();
            case "add" -> x.add(a[0], a[1]);
            case "run" -> x.run(a[0]);
            case "setPoint" -> x.setPoint(a[0], a[1]);
            case "setCorrection" -> x.setCorrection(a[0], a[1]);
            case "scrap" -> x.scrap(a[0]);
            case "undo" -> x.undo();
            case "checksum" -> x.checksum();
            default -> throw new AssertionError(name);
        };
    }
}
