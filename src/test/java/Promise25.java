/** Promise 25, wants(m). */
final class Promise25 {
    private static final String LAND = "place;law 0 0 0;start 1;word 0 0 0;word 3 0 0;word 3 0 0;word 2 5 0;";

    private static final String TWO_PLACES = "place;place;law 0 0 0;start 1;word 1 0 0;";

    private Promise25() { }

    private static void bad(Due due, int m) {
        Twins.refused(due, Lands::busy, x -> x.wants(m), SlangYears.BAD);
    }

    @Says("WANTS of a MEANING: 1, if no WORD of it has a MEAN of YOUNG of 200 at least NOW.")
    static void aMeanOf200IsEnough(Due due) {
        SlangYears x = Lands.with(TWO_PLACES);
        x.song(0, 0, 40);
        due.is("MEAN of YOUNG", x.has(0, -1, 0), 200);
        due.is("wants(1)", x.wants(1), 0);
    }

    @Says("WANTS of a MEANING: 1, if no WORD of it has a MEAN of YOUNG of 200 at least NOW.")
    static void aMeanOf199IsNotEnough(Due due) {
        SlangYears x = Lands.with(TWO_PLACES);
        x.song(0, 0, 23);
        x.song(0, 1, 23);
        x.go(1);
        x.song(0, 0, 2);
        x.song(0, 1, 2);
        due.is("MEAN of YOUNG: 1400 / 7", x.has(0, -1, 0), 200);
        due.is("wants(1)", x.wants(1), 0);
        x.anew();
        x.song(0, 0, 23);
        x.song(0, 1, 23);
        x.go(1);
        x.song(0, 0, 2);
        x.song(0, 1, 1);
        due.is("MEAN of YOUNG: 200 and 198 / 2", x.has(0, -1, 0), 199);
        due.is("wants(1)", x.wants(1), 1);
    }

    @Says("WANTS of a MEANING: 1, if no WORD of it")
    static void aMeaningWithoutWordsWantsOne(Due due) {
        due.is("wants(1)", Lands.with(LAND).wants(1), 1);
        due.is("wants(0) without a land", new SlangYears().wants(0), 1);
        due.is("wants(3) without a land", new SlangYears().wants(3), 1);
    }

    @Says("WANTS of a MEANING: 1, if no WORD of it")
    static void wordsOfAnotherMeaningDoNotCount(Due due) {
        SlangYears x = Lands.with(LAND);
        x.song(0, 0, 90);
        due.is("wants(0)", x.wants(0), 0);
        due.is("wants(3)", x.wants(3), 1);
        due.is("wants(1)", x.wants(1), 1);
    }

    @Says("WANTS of a MEANING: 1, if no WORD of it")
    static void oneWordIsEnough(Due due) {
        SlangYears x = Lands.with(LAND);
        x.song(1, 0, 30);
        due.is("wants(3) with the first of two", x.wants(3), 0);
        x = Lands.with(LAND);
        x.song(2, 0, 30);
        due.is("wants(3) with the second of two", x.wants(3), 0);
    }

    @Says("WANTS of a MEANING: 1, if no WORD of it")
    static void theFifthOfFiveWordsIsEnough(Due due) {
        SlangYears x = Lands.with("place;start 1;word 2 0 0;word 2 0 0;word 2 0 0;word 2 0 0;word 2 0 0;");
        due.is("wants(2) of five", x.wants(2), 1);
        x.song(4, 0, 30);
        due.is("wants(2) with the fifth", x.wants(2), 0);
    }

    @Says("A LAND read anew: what is not told is as at first")
    static void wordsOfALandOfBeforeDoNotCount(Due due) {
        SlangYears x = Lands.with("place;start 99;word 0 0 0;word 2 0 0;");
        due.is("wants(2)", x.wants(2), 0);
        Lands.type(x, "place;start 99;word 0 0 0;");
        x.land();
        due.is("wants(2) behind another land", x.wants(2), 1);
        Lands.type(x, "place;start 99;word 1 0 0;");
        x.land();
        due.is("wants(2) behind a third", x.wants(2), 1);
    }

    @Says("WANTS of a MEANING: 1, if no WORD of it")
    static void wordsAreNotAddedUp(Due due) {
        SlangYears x = Lands.with(LAND);
        x.song(1, 0, 19);
        x.song(2, 0, 19);
        due.is("wants(3)", x.wants(3), 1);
    }

    @Says("a MEAN of YOUNG of 200 at least NOW")
    static void itIsOfNow(Due due) {
        SlangYears x = Lands.with(LAND);
        due.is("wants(0)", x.wants(0), 1);
        x.song(0, 0, 20);
        due.is("wants(0) behind a song", x.wants(0), 0);
        x.go(1);
        due.is("wants(0) a year later, of 171", x.wants(0), 1);
    }

    @Says("WANTS of a MEANING: 1, if no WORD of it")
    static void aWordThatIsNotCoinedIsNotEnough(Due due) {
        SlangYears x = Lands.with("place;law 0 0 0;start 99;word 2 5 0;");
        x.go(4);
        due.is("wants(2) the year ahead", x.wants(2), 1);
        x.go(1);
        due.is("wants(2) in its year", x.wants(2), 0);
    }

    @Says("have a MEANING (0 .. 3)")
    static void meaning4AndAboveIsBad(Due due) {
        bad(due, 4);
        bad(due, Integer.MAX_VALUE);
        due.is("wants(4) without a land", new SlangYears().wants(4), SlangYears.BAD);
    }

    @Says("have a MEANING (0 .. 3)")
    static void meaningBelow0IsBad(Due due) {
        bad(due, -1);
        bad(due, Integer.MIN_VALUE);
    }
}
