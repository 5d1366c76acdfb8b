/** Promise 21, kills(w). */
final class Promise21 {
    /** By itself it is over in year 7; with PARENTS, who learn and make them drop it, in year 5. */
    private static final String SUNG = "place;law 0 9 9;start 1;word 1 0 0;";

    /** PARENTS kill it early, so that a song may be its height; without them it is much higher, and over in year 31. */
    private static final String TAKEN_UP = "place;law 4 9 9;start 20;word 1 0 0;";

    private Promise21() { }

    private static void no(Due due, int w) {
        Twins.refused(due, Lands::busy, x -> x.kills(w), SlangYears.NO);
    }

    private static SlangYears sungIn(int year) {
        SlangYears x = Lands.with(SUNG);
        if (year > 0) {
            x.go(year);
        }
        x.song(0, 0, 80);
        return x;
    }

    @Says("OVER with LEARN 0 less OVER as it is")
    static void itIsByHowManyYearsItIsOverSooner(Due due) {
        due.is("kills(0): 7 less 5", sungIn(0).kills(0), 2);
    }

    @Says("OVER with LEARN 0 less OVER as it is")
    static void itIsOfLivesThatWereLivedSo(Due due) {
        SlangYears x = Lands.with("place;place;near 0 1 6;law 9 9 9;start 99;word 1 2 0;");
        SlangYears unlearnt = Lands.with("place;place;near 0 1 6;law 9 0 9;start 99;word 1 2 0;");
        x.go(99);
        unlearnt.go(99);
        due.is("it is over either way", x.life(0, 2) > 0 && unlearnt.life(0, 2) > 0 ? 1 : 0, 1);
        due.is("kills(0)", x.kills(0), unlearnt.life(0, 2) - x.life(0, 2));
    }

    @Says("OVER with LEARN 0 less OVER as it is")
    static void withLearn0ItIs0(Due due) {
        SlangYears x = Lands.with("place;law 4 0 9;start 20;word 1 0 0;");
        due.is("kills(0)", x.kills(0), 0);
        x.go(99);
        due.is("though it is over in", x.life(0, 2), 31);
    }

    @Says("NO: BAD, STATE.")
    static void itMayBeBelow0(Due due) {
        SlangYears x = Lands.with(TAKEN_UP);
        x.go(50);
        x.song(0, 0, 30);
        due.is("kills(0): 31 less 56", x.kills(0), -25);
    }

    @Says("(99, where it is never over)")
    static void whereItIsNeverOverWithLearn0ThatIs99(Due due) {
        due.is("kills(0): 99 less 98", sungIn(93).kills(0), 1);
    }

    @Says("(99, where it is never over)")
    static void whereItIsNeverOverAsItIsThatIs99(Due due) {
        SlangYears x = Lands.with(TAKEN_UP);
        x.go(97);
        x.song(0, 0, 30);
        due.is("kills(0): 31 less 99", x.kills(0), -68);
    }

    @Says("(99, where it is never over)")
    static void whereItIsNeverOverAtAllItIs0(Due due) {
        due.is("kills(0) of a plain one", Lands.with("place;law 9 9 9;start 99;word 1 0 0 plain;").kills(0), 0);
        due.is("kills(0) of a song of year 99", sungIn(99).kills(0), 0);
    }

    @Says("(99, where it is never over)")
    static void overInYear99Is99AsWell(Due due) {
        due.is("kills(0) of a song of year 94: 99 less 99", sungIn(94).kills(0), 0);
    }

    @Says("LIFE to YEAR 99 with the SONGS as told")
    static void yearsToComeCount(Due due) {
        SlangYears x = Lands.with(TAKEN_UP);
        due.is("kills(0) in year 0", x.kills(0), 24);
        x.go(3);
        due.is("kills(0) in year 3", x.kills(0), 24);
        x.go(96);
        due.is("kills(0) in year 99", x.kills(0), 24);
    }

    @Says("LIFE to YEAR 99 with the SONGS as told")
    static void songsAsToldCount(Due due) {
        SlangYears x = Lands.with(SUNG);
        due.is("kills(0) without a song", x.kills(0), 0);
        x.song(0, 0, 80);
        due.is("kills(0) with it", x.kills(0), 2);
        x.go(20);
        due.is("kills(0) with it, later", x.kills(0), 2);
        x.anew();
        due.is("kills(0) when it is forgotten", x.kills(0), 0);
    }

    @Says("LIFE to YEAR 99 with the SONGS as told")
    static void songsOfItsWordAloneCount(Due due) {
        SlangYears x = Lands.with("place;law 0 9 9;start 1;word 1 0 0;word 1 0 0;");
        x.song(1, 0, 80);
        due.is("kills(0)", x.kills(0), 0);
        due.is("kills(1)", x.kills(1), 2);
    }

    @Says("STATE: it is not COINED by NOW.")
    static void ofAWordThatIsNotCoinedItIsNo(Due due) {
        no(due, 3);
        SlangYears x = Lands.with("place;word 1 3 0;");
        x.go(2);
        due.is("kills(0) the year ahead", x.kills(0), SlangYears.NO);
    }

    @Says("STATE: it is not COINED by NOW.")
    static void inItsYearItIsCoined(Due due) {
        SlangYears x = Lands.with("place;law 4 9 9;start 20;word 1 3 0;");
        x.go(3);
        due.is("kills(0)", x.kills(0), 24);
    }

    @Says("WORDS 0 .. (5 at most)")
    static void theFifthWordStands(Due due) {
        SlangYears x = Lands.with("place;law 0 9 9;start 1;" + "word 1 0 0;".repeat(5));
        x.song(4, 0, 80);
        due.is("kills(4)", x.kills(4), 2);
        due.is("kills(3)", x.kills(3), 0);
    }

    @Says("NO: BAD, STATE.")
    static void ofAWordThatThereIsNotItIsNo(Due due) {
        no(due, 4);
        no(due, -1);
        no(due, Integer.MAX_VALUE);
        no(due, Integer.MIN_VALUE);
        due.is("kills(0) without a land", new SlangYears().kills(0), SlangYears.NO);
    }

    @Says("OVER with LEARN 0 less OVER as it is")
    static void nothingChangesByIt(Due due) {
        SlangYears x = Lands.busy();
        x.kills(0);
        x.kills(2);
        Twins.alike(due, "behind kills(), ", x, Lands.busy());
    }
}
