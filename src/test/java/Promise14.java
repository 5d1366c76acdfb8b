/** Promise 14, life(w, what). */
final class Promise14 {
    private static final String KEPT = "KEPT: the AGE with the greatest SHARES of all PLACES, added, NOW, "
        + "the least such.";

    private static final String OVER = "OVER: the first YEAR behind that with a MEAN of YOUNG below 100; NONE.";

    /** MEAN of YOUNG: 214 in years 2 to 4, then 142, 71, 0. */
    private static final String LATER = "place;law 0 0 0;start 50;word 1 2 0;";

    private static final String LOW = "place;law 0 0 0;start 1;word 1 0 0;";

    private static final String TWO_LOW = "place;place;law 0 0 0;start 1;word 1 0 0;";

    private Promise14() { }

    private static void bad(Due due, int w, int what) {
        Twins.refused(due, Lands::busy, x -> x.life(w, what), SlangYears.BAD);
    }

    private static SlangYears after(int years, String land) {
        SlangYears x = Lands.with(land);
        x.go(years);
        return x;
    }

    // ---- the peak

    @Says("PEAK: the greatest MEAN of YOUNG")
    static void peakIsTheGreatestMeanOfYoung(Due due) {
        due.is("PEAK of one place", after(9, LATER).life(0, 0), 214);
        due.is("PEAK of three: 214 / 3", Lands.with("place;place;place;law 0 0 0;start 50;word 1 0 0;").life(0, 0), 71);
    }

    @Says("(of the YEARS up to NOW, NOW too, each by its begin)")
    static void nowIsOneOfTheYears(Due due) {
        SlangYears x = after(2, LATER);
        due.is("PEAK in the year of the word", x.life(0, 0), 214);
        due.is("its YEAR", x.life(0, 1), 2);
    }

    @Says("(of the YEARS up to NOW, NOW too, each by its begin)")
    static void songsAreInTheBeginOfTheirYear(Due due) {
        SlangYears x = after(3, LOW);
        x.song(0, 0, 14);
        due.is("PEAK NOW", x.life(0, 0), 140);
        due.is("its YEAR", x.life(0, 1), 3);
        x.go(1);
        due.is("PEAK a year later", x.life(0, 0), 140);
        due.is("its YEAR", x.life(0, 1), 3);
    }

    @Says("(of the YEARS up to NOW, NOW too, each by its begin)")
    static void yearsBehindNowDoNotCount(Due due) {
        SlangYears x = Lands.still();
        x.go(3);
        x.song(0, 0, 90);
        x.anew();
        x.go(2);
        due.is("PEAK", x.life(0, 0), 214);
        due.is("OVER", x.life(0, 2), SlangYears.NONE);
        x.go(3);
        x.anew();
        due.is("OVER anew, which was 4", x.life(0, 2), SlangYears.NONE);
    }

    @Says("its YEAR, the first")
    static void ofSeveralYearsItIsTheFirst(Due due) {
        SlangYears x = after(4, LATER);
        due.is("MEAN of YOUNG NOW", x.has(0, -1, 0), 214);
        due.is("its YEAR", x.life(0, 1), 2);
        x.go(9);
        due.is("its YEAR, later", x.life(0, 1), 2);
    }

    @Says("its YEAR, the first")
    static void aSongThatMakesItAsHighAgainDoesNotCount(Due due) {
        SlangYears x = Lands.with(LOW);
        x.song(0, 0, 14);
        x.go(3);
        x.song(0, 0, 14);
        due.is("MEAN of YOUNG NOW", x.has(0, -1, 0), 140);
        due.is("its YEAR", x.life(0, 1), 0);
        x.song(0, 0, 15);
        due.is("its YEAR behind a greater one", x.life(0, 1), 3);
    }

    // ---- over

    @Says(OVER)
    static void aMeanOf100IsNotOver(Due due) {
        SlangYears x = Lands.with(TWO_LOW);
        x.song(0, 0, 11);
        x.song(0, 1, 11);
        x.go(1);
        x.song(0, 0, 4);
        x.song(0, 1, 4);
        due.is("MEAN of YOUNG", x.has(0, -1, 0), 100);
        due.is("OVER", x.life(0, 2), SlangYears.NONE);
    }

    @Says(OVER)
    static void aMeanOf99IsOver(Due due) {
        SlangYears x = Lands.with(TWO_LOW);
        x.song(0, 0, 11);
        x.song(0, 1, 11);
        x.go(1);
        x.song(0, 0, 3);
        x.song(0, 1, 4);
        due.is("MEAN of YOUNG", x.has(0, -1, 0), 99);
        due.is("OVER", x.life(0, 2), 1);
    }

    @Says(OVER)
    static void itIsTheFirstSuch(Due due) {
        SlangYears x = after(5, LATER);
        due.is("OVER in year 5, of 142", x.life(0, 2), SlangYears.NONE);
        x.go(1);
        due.is("OVER in year 6, of 71: NOW too", x.life(0, 2), 6);
        x.go(60);
        due.is("OVER in year 66", x.life(0, 2), 6);
    }

    @Says(OVER)
    static void yearsAheadOfThePeakDoNotCount(Due due) {
        SlangYears x = after(2, LATER);
        due.is("OVER, though years 0 and 1 are below", x.life(0, 2), SlangYears.NONE);
    }

    @Says(OVER)
    static void theYearOfThePeakDoesNotCount(Due due) {
        SlangYears x = Lands.with(LOW);
        due.is("PEAK", x.life(0, 0), 4);
        due.is("OVER in year 0", x.life(0, 2), SlangYears.NONE);
        x.go(1);
        due.is("OVER in year 1", x.life(0, 2), 1);
    }

    @Says(OVER)
    static void aLesserSongBehindItLeavesIt(Due due) {
        SlangYears x = after(8, LATER);
        x.song(0, 0, 20);
        due.is("MEAN of YOUNG", x.has(0, -1, 0), 200);
        due.is("OVER", x.life(0, 2), 6);
    }

    @Says(OVER)
    static void behindAGreaterSongItIsNotOver(Due due) {
        SlangYears x = after(8, LATER);
        x.song(0, 0, 22);
        due.is("PEAK", x.life(0, 0), 220);
        due.is("OVER", x.life(0, 2), SlangYears.NONE);
        x.go(4);
        due.is("OVER four years later, of 94", x.life(0, 2), 12);
    }

    @Says("YEAR: 0 at first, 99 at most.")
    static void itMayBeOverInYear99(Due due) {
        SlangYears x = after(92, LOW);
        x.song(0, 0, 80);
        x.go(6);
        due.is("OVER in year 98, of 114", x.life(0, 2), SlangYears.NONE);
        x.go(1);
        due.is("OVER in year 99, of 0", x.life(0, 2), 99);
    }

    @Says("YEAR: 0 at first, 99 at most.")
    static void itsHeightMayBeInYear99(Due due) {
        SlangYears x = after(99, LOW);
        x.song(0, 0, 80);
        due.is("PEAK", x.life(0, 0), 800);
        due.is("its YEAR", x.life(0, 1), 99);
        due.is("OVER", x.life(0, 2), SlangYears.NONE);
        due.is("KEPT", x.life(0, 3), 13);
    }

    @Says(OVER)
    static void whatIsNeverOverIsNone(Due due) {
        SlangYears x = after(99, "place;law 9 9 9;start 99;word 1 0 0 plain;");
        due.is("OVER of a plain one", x.life(0, 2), SlangYears.NONE);
    }

    // ---- kept

    @Says(KEPT)
    static void ofSeveralAgesItIsTheLeast(Due due) {
        due.is("KEPT", Lands.still().life(0, 3), 15);
    }

    @Says(KEPT)
    static void itIsOfNow(Due due) {
        SlangYears x = after(10, Lands.STILL);
        due.is("KEPT ten years later", x.life(0, 3), 25);
        x.song(0, 0, 50);
        due.is("KEPT when those of 13 have it as well", x.life(0, 3), 13);
    }

    @Says(KEPT)
    static void lessIsNotKept(Due due) {
        SlangYears x = after(10, Lands.STILL);
        x.song(0, 0, 49);
        due.is("KEPT", x.life(0, 3), 25);
    }

    @Says(KEPT)
    static void placesAreAdded(Due due) {
        SlangYears x = Lands.with("place;place;law 0 0 0;start 50;word 1 0 0;");
        x.song(0, 1, 1);
        x.go(2);
        x.song(0, 1, 1);
        due.is("KEPT: 17 to 19 at 0, 13 to 21 at 1", x.life(0, 3), 17);
        x.song(0, 1, 51);
        due.is("KEPT: 500 and 510 at 17", x.life(0, 3), 17);
        x.go(3);
        x.song(0, 1, 98);
        due.is("KEPT: 980 at 13; at 18 and 19 no less, at 20 to 22 1010", x.life(0, 3), 20);
    }

    @Says(KEPT)
    static void thoseOf69KeepIt(Due due) {
        due.is("KEPT", after(54, Lands.STILL).life(0, 3), 69);
    }

    @Says(KEPT)
    static void aShareOf1IsTheGreatestWhereThereIsNoOther(Due due) {
        SlangYears x = after(60, "place;law 1 0 0;start 3;word 0 0 0;");
        due.is("share of 69", x.share(0, 0, 69), 1);
        due.is("share of 68", x.share(0, 0, 68), 0);
        due.is("KEPT", x.life(0, 3), 69);
    }

    @Says(KEPT)
    static void whereNobodyHasItItIsTheLeastOfAll(Due due) {
        due.is("KEPT", after(99, Lands.STILL).life(0, 3), 10);
    }

    // ---- refused

    @Says("PEAK (what = 0), its YEAR (1), OVER (2), KEPT (3)")
    static void whatOf4AndAboveIsBad(Due due) {
        bad(due, 0, 4);
        bad(due, 0, Integer.MAX_VALUE);
    }

    @Says("PEAK (what = 0), its YEAR (1), OVER (2), KEPT (3)")
    static void whatBelow0IsBad(Due due) {
        bad(due, 0, -1);
        bad(due, 0, Integer.MIN_VALUE);
    }

    @Says("WORDS 0 .. (5 at most)")
    static void theFifthWordStands(Due due) {
        SlangYears x = Lands.with(Lands.ALL);
        x.go(4);
        due.is("life(4, 0): 171 / 3", x.life(4, 0), 57);
        due.is("life(4, 2): below 100 from the year behind its height on", x.life(4, 2), 1);
        due.is("life(4, 3)", x.life(4, 3), 19);
    }

    @Says("BAD (a number is not as told, or there is no such thing)")
    static void aWordThatThereIsNotIsBad(Due due) {
        bad(due, 4, 0);
        bad(due, -1, 0);
        bad(due, Integer.MAX_VALUE, 0);
        bad(due, Integer.MIN_VALUE, 0);
        due.is("life(0, 0) without a land", new SlangYears().life(0, 0), SlangYears.BAD);
    }

    @Says("BAD; STATE: it is not COINED.")
    static void ofAWordThatIsNotCoinedItIsState(Due due) {
        SlangYears x = after(1, LATER);
        for (int what = 0; what <= 3; what++) {
            due.is("life(0, " + what + ")", x.life(0, what), SlangYears.STATE);
        }
        Twins.refused(due, Lands::busy, y -> y.life(3, 0), SlangYears.STATE);
    }

    @Says("BAD; STATE: it is not COINED.")
    static void badIsAheadOfState(Due due) {
        SlangYears x = after(1, LATER);
        due.is("life(0, 4)", x.life(0, 4), SlangYears.BAD);
        due.is("life(0, -1)", x.life(0, -1), SlangYears.BAD);
    }
}
