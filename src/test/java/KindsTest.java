/** Promises 28 to 32: kinds, images, counts, the trace. */
public final class KindsTest {
    private static final Due DUE = new Due("KindsTest");

    public static void main(String[] args) {
        rate();
        rateOfParents();
        trace();
        keep();
        back();
        whatImagesDoNotKeep();
        whatHappensAfterAnImage();
        songsOfAnImage();
        imageOfTheLastYear();
        count();
        constants();
        DUE.end();
    }

    private static void rate() {
        SlangYears x = Due.with("place;law 0 0 0;start 50;word 3 2 0;word 2 7 0;");
        x.go(2);
        DUE.is("WORD", x.rate(0, 0), 2);
        DUE.is("NEW", x.rate(1, 0), 2 + 214);
        DUE.is("HAD", x.rate(2, 0), 2 + 25);
        DUE.is("OVER", x.rate(3, 0), 2 + 25);
        DUE.is("KEPT", x.rate(4, 0), 2 * 27);
        DUE.is("STAYED", x.rate(5, 0), 2 + 3);
        DUE.is("NEW, not COINED", x.rate(1, 1), 7);
        DUE.is("STAYED, not COINED", x.rate(5, 1), 9);
        DUE.is("kind 6", x.rate(6, 0), SlangYears.NO);
        DUE.is("kind -1", x.rate(-1, 0), SlangYears.NO);
        DUE.is("word 2", x.rate(0, 2), SlangYears.NO);
        DUE.is("word -1", x.rate(0, -1), SlangYears.NO);
    }

    private static void rateOfParents() {
        SlangYears x = Due.with("place;place;law 0 0 0;start 50;word 3 2 0;");
        x.go(22);
        // at 35 to 37: PARENTS 1500 / 16, ALL 1500 / 60, each by two places
        DUE.is("NEW", x.rate(1, 0), 2);
        DUE.is("HAD", x.rate(2, 0), 2 + 12);
        DUE.is("OVER", x.rate(3, 0), 2 + 12 - 46);
        DUE.is("KEPT", x.rate(4, 0), -64);
    }

    private static void trace() {
        SlangYears x = Due.with("place;word 3 2 0;");
        long sum = 0;
        int[] added = {1, 11, 101, 1101, 11101, 100001};
        for (int kind = 0; kind < added.length; kind++) {
            x.rate(kind, 0);
            sum += added[kind];
            DUE.is("trace behind kind " + kind, x.trace(), sum);
        }
        x.rate(6, 0);
        x.rate(-1, 0);
        x.rate(0, 1);
        x.rate(4, -1);
        DUE.is("refused", x.trace(), sum);
        x.keep(0);
        x.rate(0, 0);
        x.back(0);
        DUE.is("behind back()", x.trace(), sum + 1);
        x.anew();
        DUE.is("behind anew()", x.trace(), sum + 1);
        x.land();
        DUE.is("behind land()", x.trace(), sum + 1);
    }

    private static void keep() {
        SlangYears x = Due.with("place;word 3 2 0;");
        DUE.is("keep(2)", x.keep(2), SlangYears.BAD);
        DUE.is("keep(-1)", x.keep(-1), SlangYears.BAD);
        DUE.is("keep(0)", x.keep(0), 0);
        x.go(5);
        DUE.is("keep(1)", x.keep(1), 5);
        x.go(5);
        DUE.is("keep(0) again", x.keep(0), 10);
        x.go(1);
        DUE.is("back(1)", x.back(1), 5);
        DUE.is("back(0)", x.back(0), 10);
    }

    private static void back() {
        SlangYears x = Due.with("place;law 0 0 0;start 50;word 3 0 0;");
        DUE.is("back(2)", x.back(2), SlangYears.BAD);
        DUE.is("back(-1)", x.back(-1), SlangYears.BAD);
        DUE.is("none was kept", x.back(0), SlangYears.STATE);
        x.go(1);
        x.song(0, 0, 30);
        x.lot(5);
        x.keep(0);
        DUE.is("the other was not kept", x.back(1), SlangYears.STATE);
        x.song(0, 0, 90);
        x.go(2);
        x.song(0, 0, 95);
        x.lot(6);
        for (int i = 0; i < 2; i++) {
            DUE.is("back(0)", x.back(0), 1);
            DUE.is("the YEAR", x.count(2), 1);
            DUE.is("the SONGS", x.count(3), 1);
            DUE.is("the SHARES", x.share(0, 0, 13), 300);
            DUE.is("the YOUNG", x.has(0, 0, 0), (2 * 500 + 5 * 300 + 200) / 7);
            DUE.is("PEAK", x.life(0, 0), 385);
            DUE.is("its YEAR", x.life(0, 1), 1);
            DUE.is("the songs' part", x.part(0), 385 - 214);
            DUE.is("the lot", x.lot(8), 5);
            x.go(1);
        }
    }

    private static void whatImagesDoNotKeep() {
        SlangYears x = Due.with("place;word 3 0 0;");
        x.go(1);
        x.keep(0);
        x.late(9);
        x.writing(5, 20, 0);
        x.letter(1, 1, 16, 0);
        x.type(59, 1);
        x.rate(0, 0);
        DUE.is("back(0)", x.back(0), 1);
        DUE.is("LATE stays", x.law(4), 9);
        DUE.is("WRITINGS stay", x.count(4), 1);
        DUE.is("THE LETTER stays", x.could() == SlangYears.STATE ? 0 : 1, 1);
        DUE.is("THE TEXT stays", x.count(5), 1);
        DUE.is("THE TRACE stays", x.trace(), 1);
    }

    private static void whatHappensAfterAnImage() {
        String text = "place;place;near 0 1 4;law 6 5 4;start 30;word 3 0 0;";
        SlangYears x = Due.with(text);
        x.go(4);
        x.keep(0);
        x.song(0, 1, 90);
        x.go(6);
        x.back(0);
        x.go(6);
        SlangYears y = Due.with(text);
        y.go(10);
        for (int age = 10; age <= 69; age++) {
            DUE.is("SHARE of " + age + " at 0", x.share(0, 0, age), y.share(0, 0, age));
            DUE.is("SHARE of " + age + " at 1", x.share(0, 1, age), y.share(0, 1, age));
        }
        for (int what = 0; what <= 3; what++) {
            DUE.is("LIFE " + what, x.life(0, what), y.life(0, what));
        }
        DUE.is("PRINTED", x.printed(0, 0), y.printed(0, 0));
    }

    /** Songs of a land begun anew take the places of those that the image has; LETTERS of the past tell them apart. */
    private static void songsOfAnImage() {
        SlangYears x = Due.with("place;place;law 0 0 0;start 1;word 3 0 0;word 3 0 0;");
        x.go(1);
        x.song(1, 1, 30);
        x.keep(0);
        x.anew();
        x.song(0, 0, 60);
        DUE.is("back(0)", x.back(0), 1);
        DUE.is("SONGS", x.count(3), 1);
        x.go(1);
        x.letter(3, 1, 13, 1);
        DUE.is("the song's year, word and place", x.could(), 1);
        x.letter(2, 0, 13, 1);
        DUE.is("not the year before", x.could(), 2);
        x.letter(2, 1, 13, 1);
        DUE.is("as many then as NOW, upper", x.forged(14, 1, 5, 0), 1);
        DUE.is("as many then as NOW, lower", x.forged(14, 1, 5, 1), 2);
        x = Due.with("place;law 0 0 9;start 1;word 3 0 0;");
        x.song(0, 0, 80);
        int kills = x.kills(0);
        x.keep(1);
        x.anew();
        x.song(0, 0, 8);
        x.back(1);
        DUE.is("its song is heard in years to come", x.kills(0), kills);
    }

    private static void imageOfTheLastYear() {
        SlangYears x = Due.with("place;law 0 0 0;start 54;word 3 79 0;");
        x.go(98);
        DUE.is("67 of PARENTS in year 98", x.printed(0, 0), SlangYears.NONE);
        x.go(1);
        x.song(0, 0, 90);
        x.keep(0);
        x.anew();
        x.go(79);
        x.song(0, 0, 99);
        x.go(20);
        DUE.is("PRINTED of the song", x.printed(0, 0), 98);
        x.back(0);
        DUE.is("PEAK in year 99", x.life(0, 0), 900);
        DUE.is("its YEAR", x.life(0, 1), 99);
        DUE.is("101 of PARENTS in year 99", x.printed(0, 0), 101);
        x = Due.with("place;law 6 0 0;start 30;word 3 0 0;");
        x.go(98);
        x.song(0, 0, 99);
        x.keep(0);
        x.anew();
        x.go(98);
        x.back(0);
        x.go(1);
        DUE.is("heard from 990: 6 * 990 * 1000 * 1000 / 10^7", x.share(0, 0, 13), 594);
        DUE.is("heard from 990: 6 * 990 * 10 * 1000 / 10^7 more", x.share(0, 0, 14), 995);
    }

    private static void count() {
        SlangYears x = Due.with("place;place;word 3 0 0;");
        x.go(4);
        x.song(0, 0, 5);
        x.writing(5, 20, 0);
        x.writing(5, 20, 0);
        x.type(59, 3);
        DUE.is("PLACES", x.count(0), 2);
        DUE.is("WORDS", x.count(1), 1);
        DUE.is("the YEAR", x.count(2), 4);
        DUE.is("SONGS", x.count(3), 1);
        DUE.is("WRITINGS", x.count(4), 2);
        DUE.is("bytes of THE TEXT", x.count(5), 3);
        DUE.is("count(6)", x.count(6), SlangYears.BAD);
        DUE.is("count(-1)", x.count(-1), SlangYears.BAD);
    }

    private static void constants() {
        DUE.is("BAD", SlangYears.BAD, -1);
        DUE.is("STATE", SlangYears.STATE, -2);
        DUE.is("FULL", SlangYears.FULL, -3);
        DUE.is("NONE", SlangYears.NONE, -9);
        DUE.is("NO", SlangYears.NO, -1000000);
    }
}
