/** Promise 17, likeliest(on, not, what). */
final class Promise17 {
    private static final String LIKELIEST = "LIKELIEST: the AGE and PLACE of the greatest WEIGHT, "
        + "of several the least AGE, then PLACE.";

    private Promise17() { }

    private static void likely(Due due, SlangYears x, int[] page, int age, int place) {
        String call = "likeliest(" + page[0] + ", " + page[1];
        due.is(call + ", 0)", x.likeliest(page[0], page[1], 0), age);
        due.is(call + ", 1)", x.likeliest(page[0], page[1], 1), place);
    }

    @Says(LIKELIEST)
    static void itIsTheGreatestWeight(Due due) {
        SlangYears x = Lands.with(Lands.TWO_STILL);
        x.song(0, 1, 40);
        x.song(0, 0, 39);
        x.go(3);
        x.song(0, 0, 41);
        likely(due, x, new int[] {1, 0}, 13, 0);
        x.go(1);
        x.song(0, 1, 42);
        likely(due, x, new int[] {1, 0}, 13, 1);
        x.go(40);
        likely(due, x, new int[] {1, 0}, 53, 1);
    }

    @Says(LIKELIEST)
    static void ofSeveralItIsTheLeastAge(Due due) {
        SlangYears x = Lands.with(Lands.TWO_STILL);
        likely(due, x, new int[] {1, 0}, 15, 0);
        likely(due, x, new int[] {2, 0}, 15, 1);
    }

    @Says(LIKELIEST)
    static void theLeastAgeIsAheadOfTheLeastPlace(Due due) {
        SlangYears x = Lands.with(Lands.TWO_STILL);
        x.song(0, 1, 40);
        likely(due, x, new int[] {1, 0}, 13, 1);
    }

    @Says(LIKELIEST)
    static void ofOneAgeItIsTheLeastPlace(Due due) {
        SlangYears x = Lands.with(Lands.TWO_STILL);
        x.song(0, 1, 40);
        x.song(0, 0, 40);
        likely(due, x, new int[] {1, 0}, 13, 0);
    }

    @Says(LIKELIEST)
    static void ofAnEmptyPageItIsTheLeastOfAll(Due due) {
        likely(due, Lands.with(Lands.TWO_STILL), new int[] {0, 0}, 10, 0);
    }

    @Says(LIKELIEST)
    static void inALandWithoutWordsItIsTheLeastOfAll(Due due) {
        likely(due, Lands.with("place;place;"), new int[] {-1, -1}, 10, 0);
    }

    @Says(LIKELIEST)
    static void itMayBeTheThirdPlace(Due due) {
        SlangYears x = Lands.with(Lands.ALL);
        likely(due, x, new int[] {16, 0}, 15, 2);
        likely(due, x, new int[] {4 | 16, 0}, 15, 2);
    }

    @Says(LIKELIEST)
    static void itMayBe69(Due due) {
        SlangYears x = Lands.with(Lands.TWO_STILL);
        x.go(54);
        likely(due, x, new int[] {2, 0}, 69, 1);
    }

    @Says("and 1000 less SHARES of those left out")
    static void thoseWhoHaveAWordThatIsLeftOutAreLessLikely(Due due) {
        SlangYears x = Lands.with("place;place;law 0 0 0;start 40;word 0 0 0;word 0 0 0;");
        x.song(0, 1, 30);
        likely(due, x, new int[] {1, 0}, 15, 0);
        likely(due, x, new int[] {1, 2}, 13, 1);
    }

    @Says("one that is in both counts as on it")
    static void oneThatIsInBothIsOnIt(Due due) {
        likely(due, Lands.with(Lands.TWO_STILL), new int[] {2, 2}, 15, 1);
        likely(due, Lands.with(Lands.TWO_STILL), new int[] {2, -2}, 15, 1);
    }

    @Says("those that there are not are left out")
    static void bitsOfWordsThatThereAreNotAreLeftOut(Due due) {
        SlangYears x = Lands.with(Lands.TWO_STILL);
        likely(due, x, new int[] {2 | 8, 0}, 15, 1);
        likely(due, x, new int[] {2 | 1 << 31, -8}, 15, 1);
        likely(due, x, new int[] {-8, 0}, 10, 0);
    }

    @Says("STATE: all WEIGHTS are 0, no PLACES.")
    static void whereAllWeigh0ItIsState(Due due) {
        SlangYears x = Lands.with(Lands.TWO_STILL);
        due.is("likeliest(3, 0, 0)", x.likeliest(3, 0, 0), SlangYears.STATE);
        due.is("likeliest(3, 0, 1)", x.likeliest(3, 0, 1), SlangYears.STATE);
        due.is("likeliest(4, 0, 0), not COINED", x.likeliest(4, 0, 0), SlangYears.STATE);
        Twins.refused(due, Lands::busy, y -> y.likeliest(8, 0, 1), SlangYears.STATE);
    }

    @Says("STATE: all WEIGHTS are 0, no PLACES.")
    static void aWeightOf1IsNot0(Due due) {
        SlangYears x = Lands.with("place;law 1 0 0;start 3;word 0 0 0;");
        x.go(60);
        likely(due, x, new int[] {1, 0}, 69, 0);
        x.go(1);
        likely(due, x, new int[] {1, 0}, SlangYears.STATE, SlangYears.STATE);
    }

    @Says("STATE: all WEIGHTS are 0, no PLACES.")
    static void withoutPlacesItIsState(Due due) {
        due.is("likeliest(0, 0, 0)", new SlangYears().likeliest(0, 0, 0), SlangYears.STATE);
        due.is("likeliest(0, 0, 1)", new SlangYears().likeliest(0, 0, 1), SlangYears.STATE);
    }

    @Says("LIKELIEST: AGE (what = 0), PLACE (1). BAD")
    static void whatOf2AndAboveIsBad(Due due) {
        Twins.refused(due, Lands::busy, x -> x.likeliest(1, 0, 2), SlangYears.BAD);
        Twins.refused(due, Lands::busy, x -> x.likeliest(1, 0, Integer.MAX_VALUE), SlangYears.BAD);
    }

    @Says("LIKELIEST: AGE (what = 0), PLACE (1). BAD")
    static void whatBelow0IsBad(Due due) {
        Twins.refused(due, Lands::busy, x -> x.likeliest(1, 0, -1), SlangYears.BAD);
        Twins.refused(due, Lands::busy, x -> x.likeliest(1, 0, Integer.MIN_VALUE), SlangYears.BAD);
    }

    @Says("the first of these: BAD (a number is not as told, or there is no such thing), STATE (as told)")
    static void badIsAheadOfState(Due due) {
        due.is("likeliest(3, 0, 2)", Lands.with(Lands.TWO_STILL).likeliest(3, 0, 2), SlangYears.BAD);
        due.is("likeliest(0, 0, -1) without places", new SlangYears().likeliest(0, 0, -1), SlangYears.BAD);
    }
}
