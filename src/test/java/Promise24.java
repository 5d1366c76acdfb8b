/** Promise 24, span(w, what). */
final class Promise24 {
    private Promise24() { }

    private static SlangYears land() {
        return Lands.with("place;word 1 0 0;word 1 0 0;");
    }

    private static void no(Due due, int w, int what) {
        Twins.refused(due, Lands::busy, x -> x.span(w, what), SlangYears.NO);
    }

    private static void mean(Due due, SlangYears x, int upper, int lower) {
        due.is("span(0, 2)", x.span(0, 2), upper);
        due.is("span(0, 3)", x.span(0, 3), lower);
    }

    @Says("SPAN of a WORD: YEARS when its writers were 16 (may be below 0)")
    static void itIsTheYearWhenTheWriterWas16(Due due) {
        SlangYears x = land();
        x.writing(50, 16, 0);
        due.is("of 16 in year 50", x.span(0, 0), 50);
        x.writing(50, 26, 0);
        due.is("of 26 in year 50", x.span(0, 0), 40);
        x.writing(50, 10, 0);
        due.is("of 10 in year 50", x.span(0, 1), 56);
    }

    @Says("SPAN of a WORD: YEARS when its writers were 16 (may be below 0)")
    static void itMayBeBelow0(Due due) {
        SlangYears x = land();
        x.writing(0, 69, 0);
        due.is("the least", x.span(0, 0), -53);
        due.is("the greatest", x.span(0, 1), -53);
        mean(due, x, -53, 1);
    }

    @Says("SPAN of a WORD: YEARS when its writers were 16 (may be below 0)")
    static void itMayBeAboveAllYears(Due due) {
        SlangYears x = land();
        x.writing(99, 10, 0);
        due.is("the least", x.span(0, 0), 105);
        due.is("the greatest", x.span(0, 1), 105);
        mean(due, x, 105, 1);
    }

    @Says("the least, the greatest, the mean: a fraction.")
    static void leastAndGreatestAreOfAll(Due due) {
        SlangYears x = land();
        x.writing(30, 20, 0);
        x.writing(30, 40, 0);
        x.writing(30, 11, 0);
        x.writing(30, 25, 0);
        due.is("the least", x.span(0, 0), 6);
        due.is("the greatest", x.span(0, 1), 35);
    }

    @Says("the mean: upper (2), lower number (3), in least terms.")
    static void theMeanIsInLeastTerms(Due due) {
        SlangYears x = land();
        x.writing(20, 16, 0);
        x.writing(21, 16, 0);
        mean(due, x, 41, 2);
        x.writing(25, 16, 0);
        mean(due, x, 22, 1);
        x.writing(20, 16, 0);
        mean(due, x, 43, 2);
    }

    @Says("the mean: upper (2), lower number (3), in least terms.")
    static void aMeanBelow0IsInLeastTermsToo(Due due) {
        SlangYears x = land();
        x.writing(0, 69, 0);
        x.writing(30, 50, 0);
        x.writing(30, 51, 0);
        mean(due, x, -62, 3);
        x.writing(30, 46, 0);
        mean(due, x, -31, 2);
    }

    @Says("the mean: upper (2), lower number (3), in least terms.")
    static void aMeanOf0Is0By1(Due due) {
        SlangYears x = land();
        x.writing(0, 16, 0);
        mean(due, x, 0, 1);
        x.writing(10, 16, 0);
        x.writing(0, 26, 0);
        mean(due, x, 0, 1);
    }

    @Says("SPAN of a WORD: YEARS when its writers were 16")
    static void writingsWithAnotherWordDoNotCount(Due due) {
        SlangYears x = land();
        x.writing(50, 20, 0);
        x.writing(99, 10, 1);
        x.writing(0, 69, 1);
        due.is("the least", x.span(0, 0), 46);
        due.is("the greatest", x.span(0, 1), 46);
        mean(due, x, 46, 1);
    }

    @Says("WRITINGS (40 at most)")
    static void fortyCount(Due due) {
        SlangYears x = land();
        for (int i = 0; i < 39; i++) {
            x.writing(99, 10, 0);
        }
        x.writing(98, 10, 0);
        due.is("the least, of the fortieth", x.span(0, 0), 104);
        mean(due, x, 40 * 105 - 1, 40);
    }

    @Says("WORDS 0 .. (5 at most)")
    static void theFifthWordStands(Due due) {
        SlangYears x = Lands.with(Lands.ALL);
        x.writing(50, 20, 3);
        due.is("span(4, 0) of none", x.span(4, 0), SlangYears.NO);
        x.writing(50, 21, 4);
        due.is("span(4, 0)", x.span(4, 0), 45);
        due.is("span(4, 3)", x.span(4, 3), 1);
    }

    @Says("NO: BAD, or there are no WRITINGS with it.")
    static void withoutWritingsItIsNo(Due due) {
        no(due, 2, 0);
        no(due, 2, 1);
        no(due, 2, 2);
        no(due, 3, 3);
        due.is("span(0, 0) of none at all", land().span(0, 0), SlangYears.NO);
    }

    @Says("SPAN: the least (what = 0), the greatest (1), the mean: upper (2), lower number (3)")
    static void whatOf4AndAboveIsNo(Due due) {
        no(due, 0, 4);
        no(due, 0, Integer.MAX_VALUE);
    }

    @Says("SPAN: the least (what = 0), the greatest (1), the mean: upper (2), lower number (3)")
    static void whatBelow0IsNo(Due due) {
        no(due, 0, -1);
        no(due, 0, Integer.MIN_VALUE);
    }

    @Says("BAD (a number is not as told, or there is no such thing)")
    static void aWordThatThereIsNotIsNo(Due due) {
        no(due, 4, 0);
        no(due, -1, 0);
        no(due, Integer.MAX_VALUE, 0);
        no(due, Integer.MIN_VALUE, 0);
        due.is("span(0, 0) without a land", new SlangYears().span(0, 0), SlangYears.NO);
    }
}
