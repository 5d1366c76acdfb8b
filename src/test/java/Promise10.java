/** Promise 10, anew(). */
final class Promise10 {
    private Promise10() { }

    private static SlangYears anew() {
        SlangYears x = Lands.busy();
        x.anew();
        return x;
    }

    @Says("YEAR 0, no SONGS: the YEAR it was.")
    static void itAnswersTheYearItWas(Due due) {
        due.is("anew() in year 7", Lands.busy().anew(), 7);
        due.is("anew() in year 99", Lands.busyInYear99().anew(), 99);
    }

    @Says("YEAR 0, no SONGS: the YEAR it was.")
    static void inYear0ItAnswers0(Due due) {
        due.is("anew() in year 0", Lands.still().anew(), 0);
        due.is("anew() without a land", new SlangYears().anew(), 0);
    }

    @Says("THE LAND begins anew: YEAR 0")
    static void theYearIs0(Due due) {
        SlangYears x = anew();
        due.is("count(2)", x.count(2), 0);
        due.is("go(99)", x.go(99), 99);
    }

    @Says("YEAR 0, no SONGS: the YEAR it was.")
    static void thereAreNoSongs(Due due) {
        due.is("count(3)", anew().count(3), 0);
    }

    @Says("YEAR 0, no SONGS: the YEAR it was.")
    static void songsOfBeforeAreNotHeardAgain(Due due) {
        SlangYears x = anew();
        x.go(4);
        due.is("part(0) in year 4", x.part(0), 0);
        SlangYears y = Lands.with(Lands.BUSY);
        y.go(4);
        due.is("share of 13", x.share(0, 1, 13), y.share(0, 1, 13));
    }

    @Says("YEAR 0, no SONGS: the YEAR it was.")
    static void thereIsRoomForTenSongsAgain(Due due) {
        SlangYears x = Lands.busyWithSongs();
        due.is("song of the eleventh", x.song(0, 0, 5), SlangYears.FULL);
        x.anew();
        due.is("song anew", x.song(0, 0, 5), 1);
    }

    @Says("THE LAND begins anew")
    static void sharesAreAsAtFirst(Due due) {
        SlangYears x = anew();
        due.is("share of 13", x.share(0, 0, 13), 0);
        due.is("share of 15 of a word of YEAR 0", x.share(0, 0, 15), 300);
        due.is("share of 18", x.share(0, 0, 18), 0);
        due.is("ALL of a word of YEAR 2", x.has(1, -1, 2), 0);
        due.is("COINED", x.word(1, 4), 0);
    }

    @Says("THE LAND begins anew")
    static void lifeIsAsAtFirst(Due due) {
        SlangYears x = anew();
        due.is("PEAK: 900 / 7, by three", x.life(0, 0), 42);
        due.is("its YEAR", x.life(0, 1), 0);
        due.is("OVER", x.life(0, 2), SlangYears.NONE);
        due.is("PRINTED", x.printed(0, 0), SlangYears.NONE);
    }

    @Says("THE LAND begins anew")
    static void yearsGoByAsAtFirst(Due due) {
        SlangYears x = Lands.with(Lands.BUSY);
        x.go(9);
        x.song(0, 1, 80);
        x.go(3);
        x.anew();
        x.go(6);
        SlangYears y = Lands.with(Lands.BUSY);
        y.go(6);
        Twins.alike(due, "six years behind anew(), ", x, y);
    }

    @Says("THE LAND begins anew")
    static void theLandStays(Due due) {
        SlangYears x = anew();
        due.is("TAKE", x.law(0), 7);
        due.is("LEARN", x.law(1), 6);
        due.is("DROP", x.law(2), 5);
        due.is("START", x.law(3), 30);
        due.is("NEAR", x.near(1, 2), 7);
        due.is("PLACES", x.count(0), 3);
        due.is("WORDS", x.count(1), 4);
        due.is("PLAIN", x.word(2, 3), 1);
    }

    @Says("THE LAND begins anew: YEAR 0, no SONGS")
    static void lateStays(Due due) {
        due.is("law(4)", anew().law(4), 3);
    }

    @Says("THE LAND begins anew: YEAR 0, no SONGS")
    static void theLotStays(Due due) {
        due.is("lot(1)", anew().lot(1), 88);
    }

    @Says("THE LAND begins anew: YEAR 0, no SONGS")
    static void theTraceStays(Due due) {
        due.is("trace()", anew().trace(), 11101);
    }

    @Says("THE LAND begins anew: YEAR 0, no SONGS")
    static void theTextStays(Due due) {
        SlangYears x = anew();
        due.is("count(5)", x.count(5), 14);
        due.is("land()", x.land(), 2);
    }

    @Says("THE LAND begins anew: YEAR 0, no SONGS")
    static void writingsStay(Due due) {
        SlangYears x = anew();
        due.is("count(4)", x.count(4), 3);
        due.is("span(0, 0)", x.span(0, 0), -3);
    }

    @Says("THE LAND begins anew: YEAR 0, no SONGS")
    static void theLetterStays(Due due) {
        SlangYears x = anew();
        due.is("could() ahead of its year", x.could(), SlangYears.STATE);
        x.go(5);
        due.is("could() in its year", x.could(), 0);
    }

    @Says("THE LAND begins anew: YEAR 0, no SONGS")
    static void imagesStay(Due due) {
        SlangYears x = anew();
        due.is("back(0)", x.back(0), 4);
        due.is("SONGS of image 0", x.count(3), 1);
        due.is("back(1)", x.back(1), 6);
        due.is("SONGS of image 1", x.count(3), 2);
    }
}
