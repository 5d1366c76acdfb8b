/** Promise 23, writing(year, age, w). */
final class Promise23 {
    private static final String WRITINGS = "WRITINGS (40 at most): a YEAR (0 .. 99), the writer's AGE (10 .. 69), "
        + "a WORD.";

    private static final String LAND = "place;word 1 80 0;word 1 0 0;";

    private Promise23() { }

    private static void bad(Due due, int year, int age, int w) {
        Twins.refused(due, Lands::busy, x -> x.writing(year, age, w), SlangYears.BAD);
    }

    @Says("A WRITING: how many there are.")
    static void itAnswersHowManyThereAreInAll(Due due) {
        SlangYears x = Lands.with(LAND);
        due.is("the first", x.writing(5, 20, 0), 1);
        due.is("the second, of another word", x.writing(5, 20, 1), 2);
        due.is("the same again", x.writing(5, 20, 1), 3);
        due.is("count(4)", x.count(4), 3);
    }

    @Says(WRITINGS)
    static void year0IsTheLeast(Due due) {
        due.is("writing of year 0", Lands.with(LAND).writing(0, 20, 0), 1);
    }

    @Says(WRITINGS)
    static void year99IsTheMost(Due due) {
        due.is("writing of year 99 in year 0", Lands.with(LAND).writing(99, 20, 0), 1);
    }

    @Says(WRITINGS)
    static void aYearBelow0IsBad(Due due) {
        bad(due, -1, 20, 0);
        bad(due, Integer.MIN_VALUE, 20, 0);
    }

    @Says(WRITINGS)
    static void aYearOf100AndAboveIsBad(Due due) {
        bad(due, 100, 20, 0);
        bad(due, Integer.MAX_VALUE, 20, 0);
    }

    @Says(WRITINGS)
    static void ages10And69Stand(Due due) {
        SlangYears x = Lands.with(LAND);
        due.is("writing of 10", x.writing(5, 10, 0), 1);
        due.is("writing of 69", x.writing(5, 69, 0), 2);
    }

    @Says(WRITINGS)
    static void ageOf9AndBelowIsBad(Due due) {
        bad(due, 5, 9, 0);
        bad(due, 5, Integer.MIN_VALUE, 0);
    }

    @Says(WRITINGS)
    static void ageOf70AndAboveIsBad(Due due) {
        bad(due, 5, 70, 0);
        bad(due, 5, Integer.MAX_VALUE, 0);
    }

    @Says("WORDS 0 .. (5 at most)")
    static void theFifthWordStands(Due due) {
        SlangYears x = Lands.with(Lands.ALL);
        due.is("writing", x.writing(50, 20, 4), 1);
        due.is("span(4, 0)", x.span(4, 0), 46);
    }

    @Says("BAD (a number is not as told, or there is no such thing)")
    static void aWordThatThereIsNotIsBad(Due due) {
        bad(due, 5, 20, 4);
        bad(due, 5, 20, -1);
        bad(due, 5, 20, Integer.MAX_VALUE);
        bad(due, 5, 20, Integer.MIN_VALUE);
        due.is("writing without a land", new SlangYears().writing(5, 20, 0), SlangYears.BAD);
    }

    @Says("A WRITING: how many there are. BAD; FULL.")
    static void aWordThatIsNotCoinedMayBeWritten(Due due) {
        SlangYears x = Lands.with(LAND);
        due.is("COINED", x.word(0, 4), 0);
        due.is("writing", x.writing(5, 20, 0), 1);
    }

    @Says("WRITINGS (40 at most)")
    static void fortyStand(Due due) {
        SlangYears x = Lands.with(LAND);
        for (int i = 1; i <= 40; i++) {
            due.is("writing " + i, x.writing(50, 30, i % 2), i);
        }
        due.is("count(4)", x.count(4), 40);
    }

    @Says("WRITINGS (40 at most)")
    static void the41stIsFull(Due due) {
        Twins.refused(due, Lands::busyWithWritings, x -> x.writing(0, 69, 0), SlangYears.FULL);
        Twins.refused(due, Lands::busyWithWritings, x -> x.writing(99, 10, 3), SlangYears.FULL);
    }

    @Says("BAD (a number is not as told, or there is no such thing), STATE (as told), FULL.")
    static void badIsAheadOfFull(Due due) {
        SlangYears x = Lands.busyWithWritings();
        due.is("year 100", x.writing(100, 30, 0), SlangYears.BAD);
        due.is("year -1", x.writing(-1, 30, 0), SlangYears.BAD);
        due.is("age 9", x.writing(50, 9, 0), SlangYears.BAD);
        due.is("age 70", x.writing(50, 70, 0), SlangYears.BAD);
        due.is("no such word", x.writing(50, 30, 4), SlangYears.BAD);
        due.is("else", x.writing(50, 30, 0), SlangYears.FULL);
    }
}
