/** Promise 16, old(on, not, a, b, what). */
final class Promise16 {
    private static final String OLD = "OLD: WEIGHTS of AGES a .. b of all PLACES, by those of all: a fraction";

    private static final String WEIGHT = "WEIGHT of an AGE and a PLACE: SHARES of all that are on it, "
        + "and 1000 less SHARES of those left out, multiplied.";

    private static final String FIVE =
        "place;law 0 0 0;start 99;word 0 0 0;word 0 0 0;word 0 0 0;word 0 0 0;word 0 0 0;";

    private Promise16() { }

    private static void fraction(Due due, SlangYears x, int[] page, long upper, long lower) {
        String call = "old(" + page[0] + ", " + page[1] + ", " + page[2] + ", " + page[3];
        due.is(call + ", 0)", x.old(page[0], page[1], page[2], page[3], 0), upper);
        due.is(call + ", 1)", x.old(page[0], page[1], page[2], page[3], 1), lower);
    }

    private static void bad(Due due, int a, int b, int what) {
        Twins.refused(due, Lands::busy, x -> x.old(1, 0, a, b, what), SlangYears.BAD);
    }

    // ---- the fraction

    @Says(OLD)
    static void agesAAndBAreOfThem(Due due) {
        SlangYears x = Lands.with(Lands.TWO_STILL);
        fraction(due, x, new int[] {1, 0, 15, 16}, 2, 3);
        fraction(due, x, new int[] {1, 0, 17, 69}, 1, 3);
        fraction(due, x, new int[] {1, 0, 10, 15}, 1, 3);
    }

    @Says(OLD)
    static void aMayBeB(Due due) {
        fraction(due, Lands.with(Lands.TWO_STILL), new int[] {1, 0, 16, 16}, 1, 3);
    }

    @Says(OLD)
    static void allPlacesAreAdded(Due due) {
        SlangYears x = Lands.with(Lands.TWO_STILL);
        x.song(1, 0, 40);
        fraction(due, x, new int[] {2, 0, 13, 15}, 2, 5);
    }

    @Says(OLD)
    static void ofAllAgesItIs1(Due due) {
        fraction(due, Lands.with(Lands.TWO_STILL), new int[] {1, 0, 10, 69}, 1, 1);
    }

    @Says("in least terms")
    static void ofAgesThatWeigh0ItIs0By1(Due due) {
        fraction(due, Lands.with(Lands.TWO_STILL), new int[] {1, 0, 18, 69}, 0, 1);
    }

    @Says(WEIGHT)
    static void anEmptyPageWeighsAlikeEverywhere(Due due) {
        SlangYears x = Lands.with(Lands.TWO_STILL);
        fraction(due, x, new int[] {0, 0, 10, 39}, 1, 2);
        fraction(due, x, new int[] {0, 0, 10, 10}, 1, 60);
        fraction(due, x, new int[] {0, 0, 69, 69}, 1, 60);
    }

    @Says(WEIGHT)
    static void aWordLeftOutWeighs1000LessItsShare(Due due) {
        // three of 600 and three of 1000, by 120 of 1000 less three of 400: 4800 by 118800
        fraction(due, Lands.with(Lands.TWO_STILL), new int[] {0, 1, 15, 17}, 4, 99);
    }

    @Says(WEIGHT)
    static void ofAWordThatNobodyHasEverybodyLeavesItOut(Due due) {
        fraction(due, Lands.with(Lands.TWO_STILL), new int[] {1, 4, 15, 16}, 2, 3);
        fraction(due, Lands.with(Lands.TWO_STILL), new int[] {0, 4, 10, 39}, 1, 2);
    }

    @Says(WEIGHT)
    static void severalWordsAreMultiplied(Due due) {
        SlangYears x = Lands.with("place;law 0 0 0;start 10;word 0 0 0;word 0 0 0;");
        x.song(0, 0, 20);
        x.song(1, 0, 30);
        x.song(1, 0, 5);
        x.go(1);
        x.song(0, 0, 60);
        // 600 * 300 twice, by that six times and 200 * 300 of those of 20
        fraction(due, x, new int[] {3, 0, 14, 15}, 6, 19);
        // 600 * 1000, by that and 600 * 700 six times and 200 * 700 of those of 20
        fraction(due, x, new int[] {1, 2, 13, 13}, 30, 163);
    }

    @Says("WEIGHTS of AGES a .. b of all PLACES, by those of all")
    static void sharesAreThoseOfNow(Due due) {
        SlangYears x = Lands.with(Lands.TWO_STILL);
        x.go(10);
        fraction(due, x, new int[] {1, 0, 15, 24}, 0, 1);
        fraction(due, x, new int[] {1, 0, 25, 26}, 2, 3);
    }

    @Says("one that is in both counts as on it")
    static void oneThatIsInBothIsOnIt(Due due) {
        fraction(due, Lands.with(Lands.TWO_STILL), new int[] {1, 1, 15, 16}, 2, 3);
        fraction(due, Lands.with(Lands.TWO_STILL), new int[] {1, -1, 15, 16}, 2, 3);
        SlangYears x = Lands.with(Lands.TWO_STILL);
        x.song(0, 0, 20);
        // 200, by that four times and 400 three times
        fraction(due, x, new int[] {1, 1, 13, 13}, 1, 10);
    }

    @Says("those that there are not are left out")
    static void bitsOfWordsThatThereAreNotOnItAreLeftOut(Due due) {
        SlangYears x = Lands.with(Lands.TWO_STILL);
        fraction(due, x, new int[] {1 | 8, 0, 15, 16}, 2, 3);
        fraction(due, x, new int[] {1 | 1 << 30, 0, 15, 16}, 2, 3);
        fraction(due, x, new int[] {1 | 1 << 31, 0, 15, 16}, 2, 3);
        fraction(due, x, new int[] {-8, 0, 10, 39}, 1, 2);
    }

    @Says("those that there are not are left out")
    static void bitsOfWordsThatThereAreNotLeftOutAreLeftOut(Due due) {
        SlangYears x = Lands.with(Lands.TWO_STILL);
        fraction(due, x, new int[] {1, 8, 15, 16}, 2, 3);
        fraction(due, x, new int[] {1, 1 << 30, 15, 16}, 2, 3);
        fraction(due, x, new int[] {1, 1 << 31, 15, 16}, 2, 3);
        fraction(due, x, new int[] {0, -8, 10, 39}, 1, 2);
    }

    @Says("WEIGHTS of AGES a .. b of all PLACES")
    static void inALandWithoutWordsAllWeighAlike(Due due) {
        SlangYears x = Lands.with("place;place;");
        fraction(due, x, new int[] {-1, -1, 10, 39}, 1, 2);
        fraction(due, x, new int[] {0, 0, 69, 69}, 1, 60);
    }

    @Says("OLD: upper (what = 0), lower number (1), in least terms.")
    static void numbersAboveAllIntsAreWhole(Due due) {
        SlangYears x = Lands.with(FIVE);
        fraction(due, x, new int[] {31, 0, 15, 15}, 1, 3);
        // 3 of 10 to the 5th, by them and 57 of 1000 to the 5th
        fraction(due, x, new int[] {0, 31, 15, 17}, 1, 190000000001L);
    }

    // ---- refused

    @Says("(STATE: these are 0)")
    static void whereAllWeigh0ItIsState(Due due) {
        SlangYears x = Lands.with(Lands.TWO_STILL);
        due.is("of a word not COINED, upper", x.old(4, 0, 10, 69, 0), SlangYears.STATE);
        due.is("of a word not COINED, lower", x.old(4, 0, 10, 69, 1), SlangYears.STATE);
        due.is("of words that nobody has both", x.old(3, 0, 10, 69, 0), SlangYears.STATE);
        Twins.refused(due, Lands::busy, y -> y.old(8, 0, 10, 69, 0), SlangYears.STATE);
    }

    @Says("(STATE: these are 0)")
    static void weightsOf1InAllAreNot0(Due due) {
        SlangYears x = Lands.with("place;law 1 0 0;start 3;word 0 0 0;");
        x.go(60);
        due.is("share of 69", x.share(0, 0, 69), 1);
        fraction(due, x, new int[] {1, 0, 10, 69}, 1, 1);
        x.go(1);
        fraction(due, x, new int[] {1, 0, 10, 69}, SlangYears.STATE, SlangYears.STATE);
    }

    @Says("(STATE: these are 0)")
    static void withoutPlacesItIsState(Due due) {
        due.is("old(0, 0, 10, 69, 0)", new SlangYears().old(0, 0, 10, 69, 0), SlangYears.STATE);
        due.is("old(0, 0, 10, 69, 1)", new SlangYears().old(0, 0, 10, 69, 1), SlangYears.STATE);
    }

    @Says("-1: BAD (a is above b, too); -2: STATE.")
    static void aAboveBIsBad(Due due) {
        bad(due, 12, 11, 0);
        bad(due, 69, 10, 1);
    }

    @Says("an AGE (10 .. 69)")
    static void aOf9AndBelowIsBad(Due due) {
        bad(due, 9, 20, 0);
        bad(due, -1, 20, 0);
        bad(due, Integer.MIN_VALUE, 20, 0);
    }

    @Says("an AGE (10 .. 69)")
    static void bOf70AndAboveIsBad(Due due) {
        bad(due, 20, 70, 0);
        bad(due, 20, Integer.MAX_VALUE, 0);
        bad(due, 70, 70, 0);
    }

    @Says("OLD: upper (what = 0), lower number (1), in least terms. -1: BAD")
    static void whatOf2AndAboveIsBad(Due due) {
        bad(due, 10, 20, 2);
        bad(due, 10, 20, Integer.MAX_VALUE);
    }

    @Says("OLD: upper (what = 0), lower number (1), in least terms. -1: BAD")
    static void whatBelow0IsBad(Due due) {
        bad(due, 10, 20, -1);
        bad(due, 10, 20, Integer.MIN_VALUE);
    }

    @Says("the first of these: BAD (a number is not as told, or there is no such thing), STATE (as told)")
    static void badIsAheadOfState(Due due) {
        SlangYears x = Lands.with(Lands.TWO_STILL);
        due.is("what of 2", x.old(3, 0, 10, 69, 2), SlangYears.BAD);
        due.is("a above b", x.old(3, 0, 12, 11, 0), SlangYears.BAD);
        due.is("a of 9 without places", new SlangYears().old(0, 0, 9, 69, 0), SlangYears.BAD);
        due.is("b of 70 without places", new SlangYears().old(0, 0, 10, 70, 0), SlangYears.BAD);
    }
}
