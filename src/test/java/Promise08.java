/** Promise 8, word(w, what). */
final class Promise08 {
    private static final String WHAT = "Of a WORD: 0 MEANING, 1 YEAR, 2 PLACE, 3 whether it is PLAIN, "
        + "4 whether it is COINED.";

    private static final String LAND = "place;place;place;word 3 2 1 plain;word 0 90 0;word 1 0 2;";

    private Promise08() { }

    private static void bad(Due due, int w, int what) {
        Twins.refused(due, Lands::busy, x -> x.word(w, what), SlangYears.BAD);
    }

    @Says(WHAT)
    static void whatOf0IsTheMeaning(Due due) {
        SlangYears x = Lands.with(LAND);
        due.is("word(0, 0)", x.word(0, 0), 3);
        due.is("word(1, 0)", x.word(1, 0), 0);
    }

    @Says(WHAT)
    static void whatOf1IsTheYear(Due due) {
        SlangYears x = Lands.with(LAND);
        due.is("word(1, 1)", x.word(1, 1), 90);
        due.is("word(2, 1)", x.word(2, 1), 0);
    }

    @Says(WHAT)
    static void whatOf2IsThePlace(Due due) {
        SlangYears x = Lands.with(LAND);
        due.is("word(1, 2)", x.word(1, 2), 0);
        due.is("word(2, 2)", x.word(2, 2), 2);
    }

    @Says(WHAT)
    static void whatOf3IsWhetherItIsPlain(Due due) {
        SlangYears x = Lands.with(LAND);
        due.is("word(0, 3)", x.word(0, 3), 1);
        due.is("word(1, 3)", x.word(1, 3), 0);
    }

    @Says("A WORD is COINED when its YEAR has come (those of YEAR 0 at once)")
    static void aWordOfYear0IsCoinedAtOnce(Due due) {
        due.is("word(2, 4)", Lands.with(LAND).word(2, 4), 1);
    }

    @Says("A WORD is COINED when its YEAR has come")
    static void theYearAheadOfItsYearItIsNotCoined(Due due) {
        SlangYears x = Lands.with(LAND);
        due.is("word(0, 4) in year 0", x.word(0, 4), 0);
        x.go(1);
        due.is("word(0, 4) in year 1", x.word(0, 4), 0);
        x.go(88);
        due.is("word(1, 4) in year 89", x.word(1, 4), 0);
    }

    @Says("A WORD is COINED when its YEAR has come")
    static void inItsYearItIsCoined(Due due) {
        SlangYears x = Lands.with(LAND);
        x.go(2);
        due.is("word(0, 4) in year 2", x.word(0, 4), 1);
        x.go(88);
        due.is("word(1, 4) in year 90", x.word(1, 4), 1);
    }

    @Says("A WORD is COINED when its YEAR has come")
    static void behindItsYearItStaysCoined(Due due) {
        SlangYears x = Lands.with(LAND);
        x.go(99);
        due.is("word(0, 4) in year 99", x.word(0, 4), 1);
        due.is("word(1, 4) in year 99", x.word(1, 4), 1);
    }

    @Says("A WORD is COINED when its YEAR has come")
    static void inAYearAheadAgainItIsNotCoinedAgain(Due due) {
        SlangYears x = Lands.with(LAND);
        x.go(2);
        x.anew();
        due.is("word(0, 4) anew", x.word(0, 4), 0);
    }

    @Says("BAD (a number is not as told, or there is no such thing)")
    static void whatOf5AndAboveIsBad(Due due) {
        bad(due, 0, 5);
        bad(due, 0, Integer.MAX_VALUE);
    }

    @Says("BAD (a number is not as told, or there is no such thing)")
    static void whatBelow0IsBad(Due due) {
        bad(due, 0, -1);
        bad(due, 0, Integer.MIN_VALUE);
    }

    @Says("WORDS 0 .. (5 at most)")
    static void theFifthWordStands(Due due) {
        SlangYears x = Lands.with(Lands.ALL);
        due.is("word(4, 0)", x.word(4, 0), 1);
        due.is("word(4, 2)", x.word(4, 2), 2);
    }

    @Says("BAD (a number is not as told, or there is no such thing)")
    static void aWordBehindTheLastIsBad(Due due) {
        bad(due, 4, 0);
        bad(due, Integer.MAX_VALUE, 0);
        due.is("word(5, 0) of five", Lands.with(LAND + "word 0 0 0;word 0 0 0;").word(5, 0), SlangYears.BAD);
    }

    @Says("BAD (a number is not as told, or there is no such thing)")
    static void aWordBelow0IsBad(Due due) {
        bad(due, -1, 0);
        bad(due, Integer.MIN_VALUE, 0);
    }

    @Says("no PLACES, no WORDS")
    static void withoutWordsItIsBad(Due due) {
        due.is("word(0, 0)", new SlangYears().word(0, 0), SlangYears.BAD);
        due.is("word(0, 4)", Lands.with("place;").word(0, 4), SlangYears.BAD);
    }
}
