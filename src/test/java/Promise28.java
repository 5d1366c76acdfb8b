/** Promise 28, rate(kind, w). */
final class Promise28 {
    private Promise28() { }

    /** In year 2: MEAN of YOUNG 1500 / 7, of ALL 1500 / 60; the second word comes in year 7. */
    private static SlangYears young() {
        SlangYears x = Lands.with("place;law 0 0 0;start 50;word 3 2 0;word 2 7 0;");
        x.go(2);
        return x;
    }

    /** In year 22, of two places: they are 35 to 37; MEAN of PARENTS 93 / 2, of ALL 25 / 2. */
    private static SlangYears grownUp() {
        SlangYears x = Lands.with("place;place;law 0 0 0;start 50;word 3 2 0;");
        x.go(22);
        return x;
    }

    private static void no(Due due, int kind, int w) {
        Twins.refused(due, Lands::busy, x -> x.rate(kind, w), SlangYears.NO);
    }

    @Says("WORD its YEAR (1).")
    static void kind0IsTheYear(Due due) {
        due.is("rate(0, 0)", young().rate(0, 0), 2);
        due.is("rate(0, 1)", young().rate(0, 1), 7);
        due.is("rate(0, 0) of YEAR 0", Lands.still().rate(0, 0), 0);
        due.is("rate(0, 0) of YEAR 90", Lands.with("place;word 0 90 0;").rate(0, 0), 90);
    }

    @Says("NEW up, and MEAN of YOUNG (10).")
    static void kind1IsTheYearAndTheYoung(Due due) {
        due.is("rate(1, 0)", young().rate(1, 0), 2 + 214);
        due.is("rate(1, 0) when they are grown up", grownUp().rate(1, 0), 2);
    }

    @Says("HAD up, and MEAN of ALL (100).")
    static void kind2IsTheYearAndAll(Due due) {
        due.is("rate(2, 0)", young().rate(2, 0), 2 + 25);
        due.is("rate(2, 0) of two places", grownUp().rate(2, 0), 2 + 12);
    }

    @Says("OVER up less MEAN of PARENTS (1000).")
    static void kind3IsKind2LessTheParents(Due due) {
        due.is("rate(3, 0)", young().rate(3, 0), 27);
        due.is("rate(3, 0) when they are grown up", grownUp().rate(3, 0), 14 - 46);
    }

    @Says("KEPT twice up (10000).")
    static void kind4IsTwiceKind3(Due due) {
        due.is("rate(4, 0)", young().rate(4, 0), 54);
        due.is("rate(4, 0) when they are grown up", grownUp().rate(4, 0), -64);
    }

    @Says("STAYED up, and MEANING (100000).")
    static void kind5IsTheYearAndTheMeaning(Due due) {
        due.is("rate(5, 0)", young().rate(5, 0), 2 + 3);
        due.is("rate(5, 1)", young().rate(5, 1), 7 + 2);
    }

    @Says("RATE of a WORD as if of a KIND")
    static void aWordThatIsNotCoinedHasItToo(Due due) {
        SlangYears x = young();
        due.is("rate(0, 1)", x.rate(0, 1), 7);
        due.is("rate(1, 1)", x.rate(1, 1), 7);
        due.is("rate(2, 1)", x.rate(2, 1), 7);
        due.is("rate(3, 1)", x.rate(3, 1), 7);
        due.is("rate(4, 1)", x.rate(4, 1), 14);
        due.is("rate(5, 1)", x.rate(5, 1), 9);
    }

    @Says("0 WORD; 1 NEW, 2 HAD, 5 STAYED (each under WORD); 3 OVER (under HAD); 4 KEPT (under OVER)")
    static void kind6AndAboveIsNo(Due due) {
        no(due, 6, 0);
        no(due, Integer.MAX_VALUE, 0);
    }

    @Says("0 WORD; 1 NEW, 2 HAD, 5 STAYED (each under WORD); 3 OVER (under HAD); 4 KEPT (under OVER)")
    static void kindBelow0IsNo(Due due) {
        no(due, -1, 0);
        no(due, Integer.MIN_VALUE, 0);
    }

    @Says("WORDS 0 .. (5 at most)")
    static void theFifthWordStands(Due due) {
        SlangYears x = Lands.with(Lands.ALL);
        due.is("rate(5, 4)", x.rate(5, 4), 1);
        due.is("rate(1, 4)", x.rate(1, 4), 57);
    }

    @Says("RATE. NO: BAD.")
    static void aWordThatThereIsNotIsNo(Due due) {
        no(due, 0, 4);
        no(due, 0, -1);
        no(due, 4, 4);
        no(due, 0, Integer.MAX_VALUE);
        no(due, 0, Integer.MIN_VALUE);
        due.is("rate(0, 0) without a land", new SlangYears().rate(0, 0), SlangYears.NO);
    }
}
