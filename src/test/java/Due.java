import java.nio.charset.StandardCharsets;

/** Counts the answers of one test that are not as due, and ends it. */
final class Due {
    private final String test;
    private int asked = 0;
    private int wrong = 0;

    Due(String test) {
        this.test = test;
    }

    void is(String call, long got, long want) {
        asked++;
        if (got != want) {
            wrong++;
            System.out.println(test + ": " + call + " answered " + got + ", due is " + want);
        }
    }

    void end() {
        System.out.println(test + ": " + asked + " answers, " + wrong + " not as due");
        if (wrong != 0) {
            System.exit(1);
        }
    }

    /** Types a text, eight bytes a call at most. */
    static void type(SlangYears x, String text) {
        byte[] bytes = text.getBytes(StandardCharsets.ISO_8859_1);
        for (int from = 0; from < bytes.length; from += 8) {
            int n = Math.min(8, bytes.length - from);
            x.type(packed(bytes, from, n), n);
        }
    }

    static long packed(byte[] bytes, int from, int n) {
        long v = 0;
        for (int i = 0; i < n; i++) {
            v = v << 8 | bytes[from + i] & 255;
        }
        return v;
    }

    /** A new object with a land. */
    static SlangYears with(String text) {
        SlangYears x = new SlangYears();
        type(x, text);
        x.land();
        return x;
    }

    /** What land() answers to a text on a new object. */
    static int landOf(String text) {
        SlangYears x = new SlangYears();
        type(x, text);
        return x.land();
    }
}
