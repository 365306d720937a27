import java.math.BigInteger;
import java.util.ArrayDeque;
import java.util.ArrayList;
import java.util.Deque;
import java.util.List;
import java.util.regex.Matcher;
import java.util.regex.Pattern;

/**
 * The document once more, written with the Java library and in another shape, so that a slip in
 * one of the two shows. Answers come from call; what it throws is what the document names.
 */
final class Model {
    interface Node {
        int value(int thickness, int zone, int gap);
    }

    record Band(int low, int high) { }

    static final class Zone {
        int set;
        int power;
        int capacity;
        int low;
        int high;
        int heat;
        Sheet held;

        Zone copy(List<Sheet> sheets) {
            Zone z = new Zone();
            z.set = set;
            z.power = power;
            z.capacity = capacity;
            z.low = low;
            z.high = high;
            z.heat = heat;
            z.held = held == null ? null : sheets.get(held.index);
            return z;
        }
    }

    static final class Sheet {
        int index;
        int thickness;
        int heat = 20;
        int state;
    }

    static final class Plant {
        final List<Zone> zones = new ArrayList<>();
        final List<Sheet> sheets = new ArrayList<>();
        final Band[] bands = new Band[20];
        final int[][] known = new int[20][4];
        int quenchTime;
        int step;
        int clock;
        Sheet inQuench;
        int left;
        Node heat = (t, z, g) -> 400 / t;

        Plant copy() {
            Plant p = new Plant();
            for (Sheet s : sheets) {
                Sheet c = p.newSheet(s.thickness);
                c.heat = s.heat;
                c.state = s.state;
            }
            for (Zone z : zones) {
                p.zones.add(z.copy(p.sheets));
            }
            for (int t = 2; t < 20; t++) {
                p.bands[t] = bands[t];
                p.known[t] = known[t].clone();
            }
            p.quenchTime = quenchTime;
            p.step = step;
            p.clock = clock;
            p.inQuench = inQuench == null ? null : p.sheets.get(inQuench.index);
            p.left = left;
            p.heat = heat;
            return p;
        }

        Sheet newSheet(int thickness) {
            Sheet s = new Sheet();
            s.index = sheets.size();
            s.thickness = thickness;
            sheets.add(s);
            return s;
        }

        long count(int... states) {
            return sheets.stream()
                    .filter(s -> java.util.Arrays.stream(states).anyMatch(w -> w == s.state)).count();
        }

        void tick() {
            for (Zone z : zones) {
                if (z.heat < z.set) {
                    z.heat = Math.min(z.set, z.heat + z.power);
                }
            }
            for (Zone z : zones) {
                if (z.held != null && z.heat > z.held.heat) {
                    int gap = z.heat - z.held.heat;
                    int h = heat.value(z.held.thickness, zones.indexOf(z), gap);
                    int a = gap * Math.max(0, Math.min(1000, h)) / 1000;
                    z.held.heat += a;
                    z.heat = Math.max(20, z.heat - a * z.held.thickness / z.capacity);
                }
            }
            if (inQuench != null && --left == 0) {
                Sheet s = inQuench;
                inQuench = null;
                Band band = bands[s.thickness];
                boolean cold = band != null && s.heat < band.low;
                boolean hot = band != null && s.heat > band.high;
                s.state = cold || hot ? 4 : 3;
                known[s.thickness][cold ? 1 : hot ? 2 : 0]++;
                int learned = known[s.thickness][3] + (cold ? step : hot ? -step : 0);
                known[s.thickness][3] = Math.max(-50, Math.min(50, learned));
            }
            for (int i = zones.size(); i-- > 0;) {
                Zone z = zones.get(i);
                boolean last = i + 1 == zones.size();
                if (z.held == null) {
                    continue;
                }
                int shift = last ? known[z.held.thickness][3] : 0;
                if (z.held.heat > z.high + shift) {
                    z.held.state = 5;
                    z.held = null;
                } else if (z.held.heat >= z.low + shift) {
                    if (last && inQuench == null) {
                        inQuench = z.held;
                        inQuench.state = 2;
                        left = z.held.thickness * quenchTime;
                        z.held = null;
                    } else if (!last && zones.get(i + 1).held == null) {
                        zones.get(i + 1).held = z.held;
                        z.held = null;
                    }
                }
            }
            if (!zones.isEmpty() && zones.get(0).held == null) {
                sheets.stream().filter(s -> s.state == 0).findFirst().ifPresent(s -> {
                    s.state = 1;
                    zones.get(0).held = s;
                });
            }
            clock++;
        }
    }

    /** The first error of a text; unchecked, so that the reading can be left from anywhere. */
    static final class TextError extends RuntimeException {
        private static final long serialVersionUID = 1;
        final int code;
        final int offset;

        TextError(int code, int offset) {
            this.code = code;
            this.offset = offset;
        }
    }

    record Token(String text, int at) { }

    static final class Reading {
        private static final Pattern TOKEN = Pattern.compile("[0-9]+|[a-z]+|[^ ]", Pattern.DOTALL);
        private final List<Token> tokens = new ArrayList<>();
        private int next = 0;

        Reading(String text) {
            Matcher m = TOKEN.matcher(text);
            while (m.find()) {
                tokens.add(new Token(m.group(), m.start()));
            }
            tokens.add(new Token("", text.length()));
        }

        Plant plant() {
            Plant p = new Plant();
            need("line");
            p.quenchTime = number(1, 9);
            p.step = number(0, 20);
            need(";");
            boolean heat = false;
            while (!peek().text.isEmpty()) {
                Token t = tokens.get(next++);
                if (t.text.equals("zone")) {
                    zone(p, t);
                } else if (t.text.equals("band")) {
                    int thickness = number(2, 19);
                    int low = number(20, 900);
                    p.bands[thickness] = new Band(low, number(low, 900));
                } else if (t.text.equals("heat") && !heat) {
                    heat = true;
                    p.heat = sum(0);
                } else {
                    throw new TextError(-2, t.at);
                }
                need(";");
            }
            if (p.zones.isEmpty()) {
                throw new TextError(-2, peek().at);
            }
            return p;
        }

        private void zone(Plant p, Token t) {
            if (p.zones.size() == 6) {
                throw new TextError(-4, t.at);
            }
            Zone z = new Zone();
            z.set = number(100, 900);
            z.power = number(1, 99);
            z.capacity = number(1, 999);
            z.low = number(20, 900);
            z.high = number(z.low, 900);
            z.heat = z.set;
            p.zones.add(z);
        }

        private Token peek() {
            return tokens.get(next);
        }

        private void need(String text) {
            if (!peek().text.equals(text)) {
                throw new TextError(-2, peek().at);
            }
            next++;
        }

        private int number(int low, int high) {
            Token t = peek();
            if (!t.text.matches("[0-9]+")) {
                throw new TextError(-2, t.at);
            }
            BigInteger n = new BigInteger(t.text);
            if (n.compareTo(BigInteger.valueOf(low)) < 0
                    || n.compareTo(BigInteger.valueOf(high)) > 0) {
                throw new TextError(-3, t.at);
            }
            next++;
            return n.intValue();
        }

        private static int bounded(long n) {
            return (int) Math.max(-1000000, Math.min(1000000, n));
        }

        private Node sum(int depth) {
            Node left = term(depth);
            while (peek().text.equals("+") || peek().text.equals("-")) {
                int sign = tokens.get(next++).text.equals("+") ? 1 : -1;
                Node a = left;
                Node b = term(depth);
                left = (t, z, g) -> bounded(a.value(t, z, g) + (long) sign * b.value(t, z, g));
            }
            return left;
        }

        private Node term(int depth) {
            Node left = factor(depth);
            while (peek().text.equals("*") || peek().text.equals("/")) {
                boolean times = tokens.get(next++).text.equals("*");
                Node a = left;
                Node b = factor(depth);
                left = (t, z, g) -> {
                    long x = a.value(t, z, g);
                    long y = b.value(t, z, g);
                    return bounded(times ? x * y : y == 0 ? 0 : x / y);
                };
            }
            return left;
        }

        private Node factor(int depth) {
            Token token = peek();
            switch (token.text) {
                case "thickness":
                    next++;
                    return (t, z, g) -> t;
                case "zone":
                    next++;
                    return (t, z, g) -> z;
                case "gap":
                    next++;
                    return (t, z, g) -> g;
                case "(":
                    if (depth == 4) {
                        throw new TextError(-5, token.at);
                    }
                    next++;
                    Node inner = sum(depth + 1);
                    need(")");
                    return inner;
                default:
                    int n = number(0, 9999);
                    return (t, z, g) -> n;
            }
        }
    }

    private StringBuilder buffer = new StringBuilder();
    private int offset = -1;
    private Plant plant = new Plant();
    private final Deque<Plant> past = new ArrayDeque<>();

    private static void argument(boolean good) {
        if (!good) {
            throw new IllegalArgumentException();
        }
    }

    private static void state(boolean good) {
        if (!good) {
            throw new IllegalStateException();
        }
    }

    private static void index(int i, List<?> list) {
        if (i < 0 || i >= list.size()) {
            throw new IndexOutOfBoundsException();
        }
    }

    private static boolean in(int n, int low, int high) {
        return n >= low && n <= high;
    }

    private void change() {
        past.push(plant.copy());
        if (past.size() > 8) {
            past.removeLast();
        }
    }

    long call(String name, int... a) {
        switch (name) {
            case "append":
                if (buffer.length() > 680) {
                    return -1;
                }
                for (int word : a) {
                    for (int shift = 24; shift >= 0; shift -= 8) {
                        buffer.append((char) (word >> shift & 255));
                    }
                }
                return buffer.length();
            case "load":
                argument(in(a[0], 0, buffer.length()));
                return load(a[0]);
            case "errorOffset":
                return offset;
            case "zoneCount":
                return plant.zones.size();
            case "sheetCount":
                return plant.sheets.size();
            case "clock":
                return plant.clock;
            case "zone":
                index(a[0], plant.zones);
                argument(in(a[1], 0, 6));
                return zone(plant.zones.get(a[0]))[a[1]];
            case "thickness":
                index(a[0], plant.sheets);
                return plant.sheets.get(a[0]).thickness;
            case "temperature":
                index(a[0], plant.sheets);
                return plant.sheets.get(a[0]).heat;
            case "state":
                index(a[0], plant.sheets);
                return plant.sheets.get(a[0]).state;
            case "quenched":
                return plant.inQuench == null ? -1 : plant.inQuench.index;
            case "quenchLeft":
                return plant.inQuench == null ? 0 : plant.left;
            case "count":
                argument(in(a[0], 0, 5));
                return plant.count(a[0]);
            case "learned":
                argument(in(a[0], 2, 19) && in(a[1], 0, 5));
                Band band = plant.bands[a[0]] == null ? new Band(-1, -1) : plant.bands[a[0]];
                return a[1] < 4 ? plant.known[a[0]][a[1]] : a[1] == 4 ? band.low : band.high;
            case "risk":
                argument(in(a[0], 2, 19));
                int breaks = plant.known[a[0]][1] + plant.known[a[0]][2];
                int all = breaks + plant.known[a[0]][0];
                return all == 0 ? -1 : 1000 * breaks / all;
            default:
                return predictOrChange(name, a);
        }
    }

    private long predictOrChange(String name, int... a) {
        switch (name) {
            case "recognise":
                argument(in(a[0], 1, 9999) && in(a[1], 1, 9999));
                int t = (40 * a[0] + a[1] / 2) / a[1];
                return in(t, 2, 19) ? t : -1;
            case "guard":
                argument(in(a[0], 2, 19));
                return guard(a[0]);
            case "finishTime":
                argument(in(a[0], 0, 300));
                Plant later = plant.copy();
                for (int i = 0; i <= a[0]; i++) {
                    if (later.count(0, 1, 2) == 0) {
                        return i;
                    }
                    later.tick();
                }
                return -1;
            case "stateAfter":
                index(a[0], plant.sheets);
                argument(in(a[1], 0, 300));
                return after(a[1]).sheets.get(a[0]).state;
            case "bestSetpoint":
                return bestSetpoint();
            case "undo":
                if (past.isEmpty()) {
                    return -1;
                }
                plant = past.pop();
                return past.size();
            case "checksum":
                return checksum();
            default:
                return change(name, a);
        }
    }

    private long change(String name, int... a) {
        switch (name) {
            case "add":
                argument(predictOrChange("recognise", a[0], a[1]) != -1);
                state(!plant.zones.isEmpty() && plant.sheets.size() < 20);
                change();
                return plant.newSheet((int) predictOrChange("recognise", a[0], a[1])).index;
            case "run":
                argument(in(a[0], 1, 60));
                state(!plant.zones.isEmpty() && plant.clock + a[0] <= 100000);
                change();
                long before = plant.count(3);
                plant = after(a[0]);
                return plant.count(3) - before;
            case "setPoint":
                index(a[0], plant.zones);
                argument(in(a[1], 100, 900));
                change();
                int set = plant.zones.get(a[0]).set;
                plant.zones.get(a[0]).set = a[1];
                return set;
            case "setCorrection":
                argument(in(a[0], 2, 19) && in(a[1], -50, 50));
                state(!plant.zones.isEmpty());
                change();
                int former = plant.known[a[0]][3];
                plant.known[a[0]][3] = a[1];
                return former;
            case "scrap":
                index(a[0], plant.sheets);
                Sheet sheet = plant.sheets.get(a[0]);
                state(in(sheet.state, 0, 1));
                change();
                int was = sheet.state;
                sheet.state = 5;
                plant.zones.forEach(z -> z.held = z.held == sheet ? null : z.held);
                return was;
            default:
                throw new AssertionError(name);
        }
    }

    private static int[] zone(Zone z) {
        return new int[] {z.set, z.power, z.capacity, z.low, z.high, z.heat,
            z.held == null ? -1 : z.held.index};
    }

    private int load(int length) {
        String text = buffer.substring(0, length);
        buffer = new StringBuilder();
        try {
            Plant fresh = new Reading(text).plant();
            change();
            plant = fresh;
            offset = -1;
            return fresh.zones.size();
        } catch (TextError e) {
            offset = e.offset;
            return e.code;
        }
    }

    private Plant after(int ticks) {
        Plant later = plant.copy();
        for (int i = 0; i < ticks; i++) {
            later.tick();
        }
        return later;
    }

    private int guard(int thickness) {
        if (plant.zones.isEmpty()) {
            return -1;
        }
        Plant p = plant.copy();
        p.sheets.clear();
        p.inQuench = null;
        p.zones.forEach(z -> {
            z.heat = z.set;
            z.held = null;
        });
        Sheet s = p.newSheet(thickness);
        for (int i = 1; i <= 300; i++) {
            p.tick();
            if (s.state == 3) {
                return i;
            }
        }
        return -1;
    }

    private int bestSetpoint() {
        if (plant.zones.isEmpty()) {
            return -1;
        }
        Zone last = plant.zones.get(plant.zones.size() - 1);
        int present = last.set;
        int best = -1;
        long bestRank = -1;
        for (int candidate = present - 30; candidate <= present + 30; candidate += 10) {
            if (!in(candidate, 100, 900)) {
                continue;
            }
            last.set = candidate;
            Plant later = after(200);
            last.set = present;
            long came = 0;
            for (Sheet s : plant.sheets) {
                came += s.state <= 2 && later.sheets.get(s.index).state == 3 ? 1 : 0;
            }
            // More sheets first, then the nearer one; the lower ones come first in this loop.
            long rank = came * 100 + 99 - Math.abs(candidate - present);
            if (rank > bestRank) {
                bestRank = rank;
                best = candidate;
            }
        }
        return best;
    }

    private long checksum() {
        List<Integer> numbers = new ArrayList<>();
        numbers.add(plant.clock);
        for (Zone z : plant.zones) {
            numbers.addAll(List.of(z.set, z.heat, z.held == null ? -1 : z.held.index));
        }
        numbers.add((int) call("quenched"));
        numbers.add((int) call("quenchLeft"));
        for (Sheet s : plant.sheets) {
            numbers.addAll(List.of(s.thickness, s.heat, s.state));
        }
        for (int t = 2; t <= 19; t++) {
            for (int n : plant.known[t]) {
                numbers.add(n);
            }
        }
        long sum = 0;
        for (int n : numbers) {
            sum = 31 * sum + n;
        }
        return sum;
    }
}
