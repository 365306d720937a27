import java.nio.charset.StandardCharsets;
import java.util.ArrayList;
import java.util.Arrays;
import java.util.List;

/** Compares answers with those that are due, and helps with setup texts. */
final class Due {
    /** A call of the class under test. */
    interface Call {
        long answer();
    }

    private static int wrong = 0;
    private static int compared = 0;

    static void is(String call, long got, long want) {
        compared++;
        if (got != want) {
            wrong++;
            System.out.println(call + " answered " + got + ", due is " + want);
        }
    }

    /** The call must throw exactly this class, not one below it. */
    static void thrown(String call, Class<? extends Exception> want, Call made) {
        compared++;
        String got;
        try {
            got = "answered " + made.answer();
        } catch (RuntimeException e) {
            if (e.getClass() == want) {
                return;
            }
            got = "threw " + e;
        }
        wrong++;
        System.out.println(call + " " + got + ", due is " + want.getSimpleName());
    }

    static void argument(String call, Call made) {
        thrown(call, IllegalArgumentException.class, made);
    }

    static void index(String call, Call made) {
        thrown(call, IndexOutOfBoundsException.class, made);
    }

    static void state(String call, Call made) {
        thrown(call, IllegalStateException.class, made);
    }

    static void fail(String what) {
        wrong++;
        System.out.println(what);
    }

    static void report() {
        System.out.println(compared + " compared, " + wrong + " wrong");
        if (wrong != 0) {
            System.exit(1);
        }
    }

    static byte[] padded(String text) {
        byte[] bytes = text.getBytes(StandardCharsets.ISO_8859_1);
        byte[] all = new byte[(bytes.length + 19) / 20 * 20];
        Arrays.fill(all, (byte) ' ');
        System.arraycopy(bytes, 0, all, 0, bytes.length);
        return all;
    }

    static int word(byte[] bytes, int at) {
        return (bytes[at] & 255) << 24 | (bytes[at + 1] & 255) << 16
                | (bytes[at + 2] & 255) << 8 | bytes[at + 3] & 255;
    }

    static void append(TemperingLine x, String text) {
        byte[] all = padded(text);
        for (int i = 0; i < all.length; i += 20) {
            x.append(word(all, i), word(all, i + 4), word(all, i + 8), word(all, i + 12),
                    word(all, i + 16));
        }
    }

    static int load(TemperingLine x, String text) {
        append(x, text);
        return x.load(text.length());
    }

    /** A new object with the line of this text, which must have no error. */
    static TemperingLine line(String text) {
        TemperingLine x = new TemperingLine();
        if (load(x, text) < 0) {
            fail("refused: " + text);
        }
        return x;
    }

    /** Adds a sheet of this thickness: 10 kg on a fitting area, or 1 square metre of it. */
    static int add(TemperingLine x, int thickness) {
        return x.add(5 * thickness, 200);
    }

    /**
     * Gives the new object a line with sheets in each of the six states, a break of each kind, a
     * changed setpoint and correction, and an error's offset, by more than 8 changes.
     */
    static void story(TemperingLine x) {
        load(x, "line 2 5;zone 300 9 99 20 900;zone 400 9 99 20 900;band 3 20 30;band 4 800 900;"
                + "heat 500;");
        for (int t = 2; t <= 9; t++) {
            add(x, t);
        }
        x.scrap(3);
        x.run(25);
        x.setPoint(1, 450);
        x.setCorrection(19, -7);
        load(x, "lane");
    }

    /** All that can be read of the object; reading it changes nothing. */
    static long[] view(TemperingLine x) {
        List<Long> seen = new ArrayList<>();
        for (int z = 0; z < x.zoneCount(); z++) {
            for (int what = 0; what <= 6; what++) {
                seen.add((long) x.zone(z, what));
            }
        }
        for (int s = 0; s < x.sheetCount(); s++) {
            seen.add((long) x.thickness(s));
            seen.add((long) x.temperature(s));
            seen.add((long) x.state(s));
            seen.add((long) x.stateAfter(s, 17));
        }
        for (int t = 2; t <= 19; t++) {
            for (int what = 0; what <= 5; what++) {
                seen.add((long) x.learned(t, what));
            }
            seen.add((long) x.risk(t));
            seen.add((long) x.guard(t));
        }
        for (int state = 0; state <= 5; state++) {
            seen.add((long) x.count(state));
        }
        seen.add((long) x.clock());
        seen.add((long) x.quenched());
        seen.add((long) x.quenchLeft());
        seen.add((long) x.finishTime(300));
        seen.add((long) x.bestSetpoint());
        seen.add(x.checksum());
        return seen.stream().mapToLong(n -> n).toArray();
    }

    static void sameView(String when, TemperingLine x, TemperingLine twin) {
        is("what can be read " + when, Arrays.equals(view(x), view(twin)) ? 1 : 0, 1);
    }

    /** The two are alike in all that can be read, in what can be undone, and in the buffer. */
    static void alike(String when, TemperingLine x, TemperingLine twin, boolean offsetToo) {
        if (offsetToo) {
            is("errorOffset() " + when, x.errorOffset(), twin.errorOffset());
        }
        is("the buffer's length " + when, x.append(0, 0, 0, 0, 0), twin.append(0, 0, 0, 0, 0));
        sameView(when, x, twin);
        int left = 0;
        for (int i = 0; i < 20 && left >= 0; i++) {
            left = twin.undo();
            is("undo() " + when, x.undo(), left);
            sameView(when + " and undo", x, twin);
        }
    }
}
