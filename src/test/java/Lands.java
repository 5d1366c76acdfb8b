import java.nio.charset.StandardCharsets;

/** Makes objects for the tests: with a text, with a land, with everything that an object may have. */
final class Lands {
    /** Nobody takes up, learns or drops: those who have it (500 of 15 to 17 in year 0) only grow older. */
    static final String STILL = "place;law 0 0 0;start 50;word 1 0 0;";

    /** Two still places with a word each, and one that is coined in year 1. */
    static final String TWO_STILL = "place;place;law 0 0 0;start 40;word 0 0 0;word 0 0 1;word 0 1 0;";

    /** All PLACES and WORDS that there may be; word 4 is had at place 2. */
    static final String ALL = "place;place;place;law 0 0 0;start 40;"
        + "word 0 0 0;word 1 0 1;word 2 0 2;word 3 0 0;word 1 0 2;";

    static final String BUSY = "place;place;place;near 0 1 4;near 2 1 7;law 7 6 5;start 30;"
        + "word 0 0 0;word 1 2 1;word 1 1 0 plain;word 2 50 2;";

    static final String BUSY_TEXT = "place;start 9;";

    private Lands() { }

    /** Types a text, eight bytes a call at most. */
    static void type(SlangYears x, String text) {
        byte[] bytes = text.getBytes(StandardCharsets.ISO_8859_1);
        for (int from = 0; from < bytes.length; from += 8) {
            int n = Math.min(8, bytes.length - from);
            x.type(packed(bytes, from, n), n);
        }
    }

    static long packed(String text) {
        byte[] bytes = text.getBytes(StandardCharsets.ISO_8859_1);
        return packed(bytes, 0, bytes.length);
    }

    static long packed(byte[] bytes, int from, int n) {
        long v = 0;
        for (int i = 0; i < n; i++) {
            v = v << 8 | bytes[from + i] & 255;
        }
        return v;
    }

    static SlangYears withText(String text) {
        SlangYears x = new SlangYears();
        type(x, text);
        return x;
    }

    static SlangYears with(String text) {
        SlangYears x = withText(text);
        x.land();
        return x;
    }

    static SlangYears still() {
        return with(STILL);
    }

    /** What land() answers to a text on a new object. */
    static int itemsOf(String text) {
        return withText(text).land();
    }

    /**
     * An object of which nothing is as at first, in year 7; word 3 is not COINED yet. The land is read twice, so
     * that rows that an object may use by turns have something in them.
     */
    static SlangYears busy() {
        SlangYears x = with(BUSY);
        type(x, BUSY);
        x.land();
        x.late(3);
        x.go(4);
        x.song(0, 1, 50);
        x.writing(30, 20, 0);
        x.writing(31, 50, 0);
        x.writing(32, 17, 1);
        x.lot(66);
        x.keep(0);
        x.rate(4, 0);
        x.go(2);
        x.song(0, 1, 60);
        x.lot(77);
        x.keep(1);
        x.letter(7, 5, 17, 0);
        x.go(1);
        x.song(2, 2, 70);
        x.lot(88);
        type(x, BUSY_TEXT);
        return x;
    }

    /** As busy(), in year 99. */
    static SlangYears busyInYear99() {
        SlangYears x = busy();
        x.go(92);
        return x;
    }

    /** As busy(), with ten SONGS. */
    static SlangYears busyWithSongs() {
        SlangYears x = busy();
        for (int i = x.count(3); i < 10; i++) {
            x.song(0, 0, 10 + i);
        }
        return x;
    }

    /** As busy(), with forty WRITINGS. */
    static SlangYears busyWithWritings() {
        SlangYears x = busy();
        for (int i = x.count(4); i < 40; i++) {
            x.writing(50, 10 + i, 2);
        }
        return x;
    }

    /** As busy(), with a text of so many bytes: BUSY_TEXT, and blanks behind it. */
    static SlangYears busyWithBytes(int bytes) {
        SlangYears x = busy();
        type(x, " ".repeat(bytes - x.count(5)));
        return x;
    }
}
