/** Promise 30, back(image). */
final class Promise30 {
    private Promise30() { }

    private static void bad(Due due, int image) {
        Twins.refused(due, Lands::busy, x -> x.back(image), SlangYears.BAD);
    }

    /** Kept in year 1 with a song of that year and a lot of 5; then much has happened. */
    private static SlangYears kept() {
        SlangYears x = Lands.still();
        x.go(1);
        x.song(0, 0, 30);
        x.lot(5);
        x.keep(0);
        x.song(0, 0, 90);
        x.go(2);
        x.song(0, 0, 95);
        x.lot(6);
        return x;
    }

    // ---- what an image keeps

    @Says("All of that becomes as an IMAGE has it: the YEAR.")
    static void itAnswersTheYearOfTheImage(Due due) {
        SlangYears x = kept();
        due.is("back(0)", x.back(0), 1);
        due.is("count(2)", x.count(2), 1);
        x = Lands.still();
        x.keep(1);
        x.go(99);
        due.is("back(1) to year 0", x.back(1), 0);
    }

    @Says("IMAGES 0, 1 keep YEAR, SHARES")
    static void sharesAreAsTheyWere(Due due) {
        SlangYears x = kept();
        x.back(0);
        due.is("share of 13", x.share(0, 0, 13), 300);
        due.is("share of 16", x.share(0, 0, 16), 500);
        due.is("YOUNG", x.has(0, 0, 0), (2 * 500 + 5 * 300 + 200) / 7);
    }

    @Says("IMAGES 0, 1 keep YEAR, SHARES")
    static void sharesOfThoseOf69AreAsTheyWere(Due due) {
        SlangYears x = Lands.still();
        x.go(53);
        x.keep(0);
        x.go(9);
        due.is("share of 69 in year 62", x.share(0, 0, 69), 0);
        x.back(0);
        due.is("share of 69", x.share(0, 0, 69), 500);
        due.is("share of 68", x.share(0, 0, 68), 500);
        x.anew();
        x.keep(1);
        x.back(0);
        x.back(1);
        due.is("share of 69 in year 0", x.share(0, 0, 69), 0);
    }

    @Says("IMAGES 0, 1 keep YEAR, SHARES, SONGS")
    static void songsAreAsTheyWere(Due due) {
        SlangYears x = kept();
        x.back(0);
        due.is("count(3)", x.count(3), 1);
        due.is("part(0): 385 less 214", x.part(0), 171);
        due.is("song", x.song(0, 0, 40), 2);
    }

    @Says("IMAGES 0, 1 keep YEAR, SHARES, SONGS")
    static void songsOfALandBegunAnewAreForgotten(Due due) {
        SlangYears x = Lands.with("place;place;law 0 0 0;start 1;word 3 0 0;word 3 0 0;");
        x.go(1);
        x.song(1, 1, 30);
        x.keep(0);
        x.anew();
        x.song(0, 0, 60);
        x.back(0);
        x.go(1);
        x.letter(3, 1, 13, 1);
        due.is("could(): the year, word and place of the image's song", x.could(), 1);
        x.letter(3, 0, 13, 0);
        due.is("could() of the other song", x.could(), 3);
        x.letter(2, 1, 13, 1);
        due.is("forged(14, 1, 5, 0): its G", x.forged(14, 1, 5, 0), 1);
        due.is("forged(14, 1, 5, 1): its G", x.forged(14, 1, 5, 1), 2);
    }

    @Says("IMAGES 0, 1 keep YEAR, SHARES, SONGS, LIFE")
    static void lifeIsAsItWas(Due due) {
        SlangYears x = kept();
        x.back(0);
        due.is("PEAK", x.life(0, 0), 385);
        due.is("its YEAR", x.life(0, 1), 1);
        due.is("OVER", x.life(0, 2), SlangYears.NONE);
        due.is("KEPT", x.life(0, 3), 16);
    }

    @Says("IMAGES 0, 1 keep YEAR, SHARES, SONGS, LIFE")
    static void lifeOfYear99IsAsItWas(Due due) {
        SlangYears x = Lands.with("place;law 0 0 0;start 1;word 3 0 0;");
        x.go(80);
        x.song(0, 0, 40);
        x.go(19);
        x.song(0, 0, 90);
        x.keep(0);
        x.anew();
        x.go(99);
        due.is("PRINTED without songs", x.printed(0, 0), SlangYears.NONE);
        x.back(0);
        due.is("PRINTED: PARENTS of 100 in year 99", x.printed(0, 0), 101);
        due.is("PEAK", x.life(0, 0), 900);
        due.is("its YEAR", x.life(0, 1), 99);
    }

    @Says("IMAGES 0, 1 keep YEAR, SHARES, SONGS, LIFE")
    static void yearsAheadOfTheImageAreAsTheyWere(Due due) {
        SlangYears x = Lands.with("place;law 0 0 0;start 1;word 3 0 0;");
        x.go(10);
        x.song(0, 0, 40);
        x.go(30);
        x.keep(0);
        x.anew();
        x.go(5);
        x.song(0, 0, 99);
        x.go(60);
        due.is("PEAK of the other song", x.life(0, 0), 990);
        x.back(0);
        due.is("PEAK", x.life(0, 0), 400);
        due.is("its YEAR", x.life(0, 1), 10);
        due.is("OVER: 2 of 400 in year 15, 1 in year 16", x.life(0, 2), 16);
        due.is("PRINTED: 4 of 400 in year 29", x.printed(0, 0), 31);
    }

    @Says("IMAGES 0, 1 keep YEAR, SHARES, SONGS, LIFE, THE LOT")
    static void theLotIsAsItWas(Due due) {
        SlangYears x = kept();
        x.back(0);
        due.is("lot(8)", x.lot(8), 5);
        x.back(0);
        x.drawn(16, 0);
        due.is("lot(8) behind a draw", x.lot(8), 5 * 1103515245 + 12345);
    }

    @Says("All of that becomes as an IMAGE has it")
    static void whatWasYoungTwoYearsAheadIsAsItWas(Due due) {
        String land = "place;place;near 0 1 4;law 6 5 4;start 30;word 3 0 0;";
        SlangYears x = Lands.with(land);
        x.go(4);
        x.keep(0);
        x.song(0, 1, 90);
        x.go(6);
        x.back(0);
        x.go(6);
        SlangYears y = Lands.with(land);
        y.go(10);
        Twins.alike(due, "six years behind back(), ", x, withImage0OfYear4(y, land));
    }

    @Says("All of that becomes as an IMAGE has it")
    static void whatIsHeardInYear98IsAsItWas(Due due) {
        SlangYears x = Lands.with("place;law 6 0 0;start 30;word 3 0 0;");
        x.go(98);
        x.song(0, 0, 99);
        x.keep(0);
        x.anew();
        x.go(98);
        x.back(0);
        x.go(1);
        due.is("share of 13: 6 * 990 / 10", x.share(0, 0, 13), 594);
        due.is("share of 14: 990 and 6 * 990 * 10 / 10 000", x.share(0, 0, 14), 995);
    }

    /** The same years as y's, with image 0 of year 4. */
    private static SlangYears withImage0OfYear4(SlangYears y, String land) {
        SlangYears z = Lands.with(land);
        z.go(4);
        z.keep(0);
        z.go(y.count(2) - 4);
        return z;
    }

    @Says("All of that becomes as an IMAGE has it")
    static void whatHappensBehindKeepDoesNotTouchTheImage(Due due) {
        SlangYears x = Lands.busy();
        SlangYears y = Lands.busy();
        x.keep(0);
        y.keep(0);
        x.song(0, 0, 99);
        x.drawn(15, 0);
        x.go(20);
        x.anew();
        x.song(2, 1, 99);
        x.go(3);
        x.back(0);
        Twins.alike(due, "behind back(0), ", x, y);
    }

    @Says("All of that becomes as an IMAGE has it")
    static void whatHappensBehindBackDoesNotTouchTheImage(Due due) {
        SlangYears x = kept();
        for (int i = 0; i < 3; i++) {
            due.is("back(0)", x.back(0), 1);
            due.is("SONGS", x.count(3), 1);
            due.is("share of 13", x.share(0, 0, 13), 300);
            due.is("lot(9)", x.lot(9), 5);
            x.song(0, 0, 80 + i);
            x.go(1 + i);
        }
    }

    // ---- what it does not keep

    @Says("IMAGES 0, 1 keep YEAR, SHARES, SONGS, LIFE, THE LOT; nothing else.")
    static void lateStays(Due due) {
        SlangYears x = kept();
        x.late(9);
        x.back(0);
        due.is("law(4)", x.law(4), 9);
    }

    @Says("IMAGES 0, 1 keep YEAR, SHARES, SONGS, LIFE, THE LOT; nothing else.")
    static void writingsStay(Due due) {
        SlangYears x = kept();
        x.writing(5, 20, 0);
        x.back(0);
        due.is("count(4)", x.count(4), 1);
        due.is("span(0, 0)", x.span(0, 0), 1);
    }

    @Says("IMAGES 0, 1 keep YEAR, SHARES, SONGS, LIFE, THE LOT; nothing else.")
    static void theLetterStays(Due due) {
        SlangYears x = kept();
        x.letter(1, 0, 14, 0);
        x.back(0);
        due.is("could()", x.could(), 1);
    }

    @Says("IMAGES 0, 1 keep YEAR, SHARES, SONGS, LIFE, THE LOT; nothing else.")
    static void theTextStays(Due due) {
        SlangYears x = kept();
        Lands.type(x, "start 7;");
        x.back(0);
        due.is("count(5)", x.count(5), 8);
        due.is("land()", x.land(), 1);
    }

    @Says("IMAGES 0, 1 keep YEAR, SHARES, SONGS, LIFE, THE LOT; nothing else.")
    static void theOtherImageStays(Due due) {
        SlangYears x = kept();
        x.keep(1);
        x.back(0);
        due.is("back(1)", x.back(1), 3);
        due.is("back(0)", x.back(0), 1);
    }

    @Says("THE TRACE goes on, as behind back()")
    static void theTraceGoesOn(Due due) {
        SlangYears x = kept();
        x.rate(0, 0);
        x.back(0);
        due.is("trace()", x.trace(), 1);
    }

    @Says("THE LAND begins anew")
    static void imagesAreThereBehindAnewToo(Due due) {
        SlangYears x = kept();
        x.anew();
        due.is("back(0)", x.back(0), 1);
    }

    // ---- refused

    @Says("BAD; STATE: none was kept.")
    static void anImageThatWasNotKeptIsState(Due due) {
        Twins.refused(due, () -> Lands.with(Lands.BUSY), x -> x.back(0), SlangYears.STATE);
        Twins.refused(due, () -> Lands.with(Lands.BUSY), x -> x.back(1), SlangYears.STATE);
    }

    @Says("BAD; STATE: none was kept.")
    static void whereTheOtherOneWasKeptItIsState(Due due) {
        due.is("back(1) of 0", kept().back(1), SlangYears.STATE);
        SlangYears x = Lands.still();
        x.keep(1);
        due.is("back(0) of 1", x.back(0), SlangYears.STATE);
    }

    @Says("IMAGES 0, 1 keep YEAR, SHARES, SONGS, LIFE, THE LOT")
    static void image2AndAboveIsBad(Due due) {
        bad(due, 2);
        bad(due, Integer.MAX_VALUE);
    }

    @Says("IMAGES 0, 1 keep YEAR, SHARES, SONGS, LIFE, THE LOT")
    static void imageBelow0IsBad(Due due) {
        bad(due, -1);
        bad(due, Integer.MIN_VALUE);
    }

    @Says("the first of these: BAD (a number is not as told, or there is no such thing), STATE (as told)")
    static void badIsAheadOfState(Due due) {
        due.is("back(2) where none was kept", new SlangYears().back(2), SlangYears.BAD);
        due.is("back(-1) where none was kept", new SlangYears().back(-1), SlangYears.BAD);
    }
}
