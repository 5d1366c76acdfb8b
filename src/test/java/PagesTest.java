/** Promises 16 to 20: pages, letters. */
public final class PagesTest {
    private static final Due DUE = new Due("PagesTest");
    private static final int NONE_OF_THEM = 0;
    /** Year 0: word 0 is had by 15 to 17 at place 0, word 1 at place 1; word 2 comes in year 1. */
    private static final String LAND = "place;place;law 0 0 0;start 40;word 0 0 0;word 0 0 1;word 0 1 0;";

    public static void main(String[] args) {
        old();
        oldOfManyWords();
        oldRefused();
        likeliest();
        letter();
        could();
        couldInAnEarlierYear();
        forged();
        forgedRefused();
        DUE.end();
    }

    private static void fraction(String call, SlangYears x, int[] page, long upper, long lower) {
        DUE.is(call + ", upper", x.old(page[0], page[1], page[2], page[3], 0), upper);
        DUE.is(call + ", lower", x.old(page[0], page[1], page[2], page[3], 1), lower);
    }

    private static void old() {
        SlangYears x = Due.with(LAND);
        fraction("one word", x, new int[] {1, 0, 15, 16}, 2, 3);
        fraction("one word, all ages", x, new int[] {1, 0, 10, 69}, 1, 1);
        fraction("one word, other ages", x, new int[] {1, 0, 18, 69}, 0, 1);
        fraction("an empty page", x, new int[] {0, 0, 10, 39}, 1, 2);
        fraction("a word left out: 4800 / 118800", x, new int[] {0, 1, 15, 17}, 4, 99);
        fraction("either one, the other left out", x, new int[] {1, 2, 15, 15}, 1, 3);
        fraction("in both counts as on it", x, new int[] {1, 1, 15, 16}, 2, 3);
        fraction("words that there are not", x, new int[] {1 | 8 | -64, 16 | 1 << 31, 15, 16}, 2, 3);
        x.song(1, 0, 40);
        fraction("places added", x, new int[] {2, 0, 13, 15}, 2, 5);
    }

    private static void oldOfManyWords() {
        SlangYears x = Due.with("place;law 0 0 0;start 99;word 0 0 0;word 0 0 0;word 0 0 0;word 0 0 0;word 0 0 0;");
        fraction("five words of 990", x, new int[] {31, 0, 15, 15}, 1, 3);
        fraction("five left out: 3 times 10^5, 57 times 10^15", x, new int[] {0, 31, 15, 17}, 1, 190000000001L);
    }

    private static void oldRefused() {
        SlangYears x = Due.with(LAND);
        DUE.is("a above b", x.old(1, 0, 12, 11, 0), SlangYears.BAD);
        DUE.is("a is b", x.old(1, 0, 15, 15, 1), 3);
        DUE.is("a 9", x.old(1, 0, 9, 11, 0), SlangYears.BAD);
        DUE.is("b 70", x.old(1, 0, 10, 70, 0), SlangYears.BAD);
        DUE.is("what 2", x.old(1, 0, 10, 11, 2), SlangYears.BAD);
        DUE.is("what -1", x.old(1, 0, 10, 11, -1), SlangYears.BAD);
        DUE.is("a word not COINED", x.old(4, 0, 10, 11, 0), SlangYears.STATE);
        DUE.is("words that nobody has together", x.old(3, 0, 10, 69, 1), SlangYears.STATE);
        DUE.is("BAD ahead of STATE", x.old(3, 0, 10, 69, 2), SlangYears.BAD);
        DUE.is("no places", new SlangYears().old(0, 0, 10, 69, 0), SlangYears.STATE);
    }

    private static void likely(String call, SlangYears x, int[] page, int age, int place) {
        DUE.is(call + ", AGE", x.likeliest(page[0], page[1], 0), age);
        DUE.is(call + ", PLACE", x.likeliest(page[0], page[1], 1), place);
    }

    private static void likeliest() {
        SlangYears x = Due.with(LAND);
        likely("an empty page", x, new int[] {0, 0}, 10, 0);
        likely("word 0", x, new int[] {1, 0}, 15, 0);
        likely("word 1", x, new int[] {2, 0}, 15, 1);
        likely("word 1 left out", x, new int[] {0, 2}, 10, 0);
        likely("in both", x, new int[] {2, 2}, 15, 1);
        likely("words that there are not", x, new int[] {2 | 32 | 1 << 31, -1 << 5}, 15, 1);
        DUE.is("nobody", x.likeliest(3, 0, 0), SlangYears.STATE);
        DUE.is("nobody, PLACE", x.likeliest(3, 0, 1), SlangYears.STATE);
        DUE.is("what 2", x.likeliest(1, 0, 2), SlangYears.BAD);
        DUE.is("what -1", x.likeliest(1, 0, -1), SlangYears.BAD);
        DUE.is("BAD ahead of STATE", x.likeliest(3, 0, 2), SlangYears.BAD);
        DUE.is("no places", new SlangYears().likeliest(0, 0, 0), SlangYears.STATE);
        x.song(0, 1, 40);
        likely("the least AGE ahead of the least PLACE", x, new int[] {1, 0}, 13, 1);
        x.song(0, 0, 40);
        likely("then the least PLACE", x, new int[] {1, 0}, 13, 0);
        x.song(0, 1, 41);
        likely("the greatest", x, new int[] {1, 0}, 13, 1);
    }

    private static void letter() {
        SlangYears x = Due.with(LAND);
        DUE.is("three words", x.letter(7, 0, 15, 0), 3);
        DUE.is("words that there are not", x.letter(-1, 0, 15, 0), 3);
        DUE.is("no words", x.letter(8, 0, 15, 0), 0);
        DUE.is("could() of no words", x.could(), 0);
        DUE.is("a year to come", x.letter(2, 1, 15, 0), SlangYears.BAD);
        DUE.is("year -1", x.letter(2, -1, 15, 0), SlangYears.BAD);
        DUE.is("age 9", x.letter(2, 0, 9, 0), SlangYears.BAD);
        DUE.is("age 70", x.letter(2, 0, 70, 0), SlangYears.BAD);
        DUE.is("place 2", x.letter(2, 0, 15, 2), SlangYears.BAD);
        DUE.is("place -1", x.letter(2, 0, 15, -1), SlangYears.BAD);
        DUE.is("the letter stays", x.could(), 0);
        DUE.is("edges", x.letter(5, 0, 10, 1), 2);
        DUE.is("edges", x.letter(5, 0, 69, 1), 2);
        x.go(1);
        DUE.is("a year that has come", x.letter(4, 1, 15, 0), 1);
    }

    private static void could() {
        SlangYears x = Due.with(LAND);
        DUE.is("no letter", x.could(), SlangYears.STATE);
        x.letter(7, 0, 15, 0);
        DUE.is("place 0", x.could(), 6);
        x.letter(7, 0, 15, 1);
        DUE.is("place 1", x.could(), 5);
        x.letter(7, 0, 18, 0);
        DUE.is("too old", x.could(), 7);
        x.letter(6, 0, 15, 0);
        DUE.is("only its words", x.could(), 6);
        x.letter(1, 0, 15, 0);
        DUE.is("all could", x.could(), 0);
    }

    private static void couldInAnEarlierYear() {
        SlangYears x = Due.with(LAND);
        x.go(1);
        x.song(1, 0, 10);
        x.keep(0);
        x.go(4);
        x.letter(7, 1, 16, 0);
        DUE.is("with the song, coined", x.could(), 0);
        x.letter(7, 1, 18, 0);
        DUE.is("word 2 is not had by 18", x.could(), 4);
        x.letter(7, 0, 16, 0);
        DUE.is("a year before", x.could(), 6);
        x.letter(7, 2, 15, 0);
        DUE.is("a year behind", x.could(), 5);
        x.letter(7, 5, 20, 0);
        DUE.is("NOW", x.could(), 0);
        DUE.is("back to year 1", x.back(0), 1);
        DUE.is("its YEAR is not up to NOW", x.could(), SlangYears.STATE);
        x.go(3);
        DUE.is("nor a year ahead", x.could(), SlangYears.STATE);
        x.go(1);
        DUE.is("its YEAR has come again", x.could(), 0);
        x.anew();
        DUE.is("anew", x.could(), SlangYears.STATE);
        x.go(5);
        DUE.is("its YEAR without the song", x.could(), 2);
    }

    private static void odds(String call, SlangYears x, int[] by, long upper, long lower) {
        DUE.is(call + ", upper", x.forged(by[0], by[1], by[2], 0), upper);
        DUE.is(call + ", lower", x.forged(by[0], by[1], by[2], 1), lower);
    }

    private static void forged() {
        SlangYears x = Due.with("place;place;law 0 0 0;start 40;word 0 0 0;word 0 0 0;");
        x.song(0, 1, 30);
        x.song(1, 1, 20);
        x.go(2);
        x.song(0, 1, 50);
        x.letter(1, 0, 15, 0);
        odds("as many", x, new int[] {17, 0, 5}, 1, 2);
        odds("three tenths", x, new int[] {17, 0, 3}, 3, 10);
        odds("0 tenths", x, new int[] {17, 0, 0}, 0, 1);
        odds("10 tenths", x, new int[] {17, 0, 10}, 1, 1);
        odds("500 NOW, 400 then", x, new int[] {13, 1, 5}, 5, 9);
        odds("the forger has it not", x, new int[] {40, 0, 5}, 0, 1);
        x.letter(3, 0, 15, 1);
        odds("two words: 400 * 400 * 2, 300 * 200 * 8", x, new int[] {17, 0, 2}, 2, 5);
        x.letter(1, 0, 30, 1);
        odds("the writer has it not", x, new int[] {17, 0, 1}, 1, 1);
        x.letter(NONE_OF_THEM, 0, 30, 1);
        odds("no words weigh 1", x, new int[] {50, 0, 7}, 7, 10);
    }

    private static void forgedRefused() {
        SlangYears x = Due.with("place;law 0 0 0;start 40;word 0 0 0;");
        DUE.is("no letter", x.forged(15, 0, 5, 0), SlangYears.STATE);
        x.go(1);
        x.letter(1, 1, 16, 0);
        DUE.is("age 9", x.forged(9, 0, 5, 0), SlangYears.BAD);
        DUE.is("age 70", x.forged(70, 0, 5, 0), SlangYears.BAD);
        DUE.is("place 1", x.forged(15, 1, 5, 0), SlangYears.BAD);
        DUE.is("place -1", x.forged(15, -1, 5, 0), SlangYears.BAD);
        DUE.is("f -1", x.forged(15, 0, -1, 0), SlangYears.BAD);
        DUE.is("f 11", x.forged(15, 0, 11, 0), SlangYears.BAD);
        DUE.is("what 2", x.forged(15, 0, 5, 2), SlangYears.BAD);
        DUE.is("what -1", x.forged(15, 0, 5, -1), SlangYears.BAD);
        DUE.is("the writer, but 0 tenths of him", x.forged(40, 0, 10, 0), SlangYears.STATE);
        x.letter(1, 1, 40, 0);
        DUE.is("both are 0", x.forged(40, 0, 5, 0), SlangYears.STATE);
        DUE.is("the forger, but 0 tenths", x.forged(16, 0, 0, 0), SlangYears.STATE);
        x.anew();
        DUE.is("its YEAR is not up to NOW", x.forged(15, 0, 5, 0), SlangYears.STATE);
        DUE.is("BAD ahead of STATE", x.forged(15, 0, 11, 0), SlangYears.BAD);
        DUE.is("no places", new SlangYears().forged(15, 0, 5, 0), SlangYears.BAD);
    }
}
