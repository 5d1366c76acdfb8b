/** Promise 29, keep(image). */
final class Promise29 {
    private Promise29() { }

    private static void bad(Due due, int image) {
        Twins.refused(due, Lands::busy, x -> x.keep(image), SlangYears.BAD);
    }

    @Says("An IMAGE is kept: the YEAR.")
    static void itAnswersTheYear(Due due) {
        SlangYears x = Lands.still();
        due.is("keep(0) in year 0", x.keep(0), 0);
        x.go(5);
        due.is("keep(0) in year 5", x.keep(0), 5);
        x.go(94);
        due.is("keep(1) in year 99", x.keep(1), 99);
        due.is("keep(0) without a land", new SlangYears().keep(0), 0);
    }

    @Says("IMAGES 0, 1 keep YEAR, SHARES, SONGS, LIFE, THE LOT")
    static void image0AndImage1AreTwo(Due due) {
        SlangYears x = Lands.still();
        x.go(1);
        x.keep(0);
        x.go(1);
        x.keep(1);
        x.go(1);
        due.is("back(0)", x.back(0), 1);
        due.is("back(1)", x.back(1), 2);
    }

    @Says("An IMAGE is kept: the YEAR.")
    static void keptAgainItIsAsTheLater(Due due) {
        SlangYears x = Lands.still();
        x.go(1);
        x.song(0, 0, 70);
        x.keep(0);
        x.go(6);
        x.keep(0);
        x.go(1);
        due.is("back(0)", x.back(0), 7);
        due.is("share of 20", x.share(0, 0, 20), 700);
        x.anew();
        x.keep(0);
        x.go(3);
        due.is("back(0) to an earlier year", x.back(0), 0);
        due.is("SONGS", x.count(3), 0);
    }

    @Says("An IMAGE is kept: the YEAR.")
    static void nothingElseChanges(Due due) {
        SlangYears x = Lands.busy();
        SlangYears y = Lands.busy();
        x.keep(1);
        y.keep(1);
        due.is("keep(1) again", x.keep(1), 7);
        Twins.alike(due, "kept twice, ", x, y);
    }

    @Says("IMAGES 0, 1 keep YEAR, SHARES, SONGS, LIFE, THE LOT")
    static void image2AndAboveIsBad(Due due) {
        bad(due, 2);
        bad(due, Integer.MAX_VALUE);
    }

    @Says("IMAGES 0, 1 keep YEAR, SHARES, SONGS, LIFE, THE LOT")
    static void imageBelow0IsBad(Due due) {
        bad(due, -1);
        bad(due, Integer.MIN_VALUE);
    }
}
