import java.nio.charset.StandardCharsets;

/** Compares answers with those that are due, and helps with setup texts. */
final class Due {
    /** A call of the class under test. */
    interface Call {
        long answer();
    }

    private static int wrong = 0;
    private static int compared = 0;

    static void is(String call, long got, long want) {
        compared++;
        if (got != want) {
            wrong++;
            System.out.println(call + " answered " + got + ", due is " + want);
        }
    }

    /** The call must throw exactly this class, not one below it. */
    static void thrown(String call, Class<? extends Exception> want, Call made) {
        compared++;
        String got;
        try {
            got = "answered " + made.answer();
        } catch (RuntimeException e) {
            if (e.getClass() == want) {
                return;
            }
            got = "threw " + e;
        }
        wrong++;
        System.out.println(call + " " + got + ", due is " + want.getSimpleName());
    }

    static void argument(String call, Call made) {
        thrown(call, IllegalArgumentException.class, made);
    }

    static void index(String call, Call made) {
        thrown(call, IndexOutOfBoundsException.class, made);
    }

    static void state(String call, Call made) {
        thrown(call, IllegalStateException.class, made);
    }

    static void fail(String what) {
        wrong++;
        System.out.println(what);
    }

    static void report() {
        System.out.println(compared + " compared, " + wrong + " wrong");
        if (wrong != 0) {
            System.exit(1);
        }
    }

    static byte[] padded(String text) {
        byte[] bytes = text.getBytes(StandardCharsets.ISO_8859_1);
        byte[] all = new byte[(bytes.length + 19) / 20 * 20];
        java.util.Arrays.fill(all, (byte) ' ');
        System.arraycopy(bytes, 0, all, 0, bytes.length);
        return all;
    }

    static int word(byte[] bytes, int at) {
        return (bytes[at] & 255) << 24 | (bytes[at + 1] & 255) << 16
                | (bytes[at + 2] & 255) << 8 | bytes[at + 3] & 255;
    }

    static void append(TemperingLine x, String text) {
        byte[] all = padded(text);
        for (int i = 0; i < all.length; i += 20) {
            x.append(word(all, i), word(all, i + 4), word(all, i + 8), word(all, i + 12),
                    word(all, i + 16));
        }
    }

    static int load(TemperingLine x, String text) {
        append(x, text);
        return x.load(text.length());
    }

    /** A new object with the line of this text, which must have no error. */
    static TemperingLine line(String text) {
        TemperingLine x = new TemperingLine();
        if (load(x, text) < 0) {
            fail("refused: " + text);
        }
        return x;
    }

    /** Adds a sheet of this thickness: 10 kg on a fitting area, or 1 square metre of it. */
    static int add(TemperingLine x, int thickness) {
        return x.add(5 * thickness, 200);
    }
}
