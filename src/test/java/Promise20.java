/** Promise 20, forged(b, q, f, what). */
final class Promise20 {
    /** Two still words: at place 0 400 of those of 15 to 17, at place 1 300 and 200 of those of 13 to 19. */
    private static final String LAND = "place;place;law 0 0 0;start 40;word 0 0 0;word 0 0 0;";

    private Promise20() { }

    /** In year 2; those of 13 to 19 at place 1 have word 0 by a song of that year, too. */
    private static SlangYears land() {
        SlangYears x = Lands.with(LAND);
        x.song(0, 1, 30);
        x.song(1, 1, 20);
        x.go(2);
        x.song(0, 1, 50);
        return x;
    }

    private static void odds(Due due, SlangYears x, int[] by, long upper, long lower) {
        String call = "forged(" + by[0] + ", " + by[1] + ", " + by[2];
        due.is(call + ", 0)", x.forged(by[0], by[1], by[2], 0), upper);
        due.is(call + ", 1)", x.forged(by[0], by[1], by[2], 1), lower);
    }

    private static void bad(Due due, int b, int q, int f, int what) {
        Twins.refused(due, Lands::busy, x -> x.forged(b, q, f, what), SlangYears.BAD);
    }

    // ---- the fraction

    @Says("WEIGHT as of a PAGE (nothing left out) of the forger NOW times f, by that and WEIGHT of the letter's "
        + "writer in its YEAR times (10 less f)")
    static void itIsByTenths(Due due) {
        SlangYears x = land();
        x.letter(1, 0, 15, 0);
        odds(due, x, new int[] {17, 0, 5}, 1, 2);
        odds(due, x, new int[] {17, 0, 3}, 3, 10);
        odds(due, x, new int[] {17, 0, 9}, 9, 10);
    }

    @Says("by f tenths (0 .. 10) before")
    static void fOf0IsTheLeast(Due due) {
        SlangYears x = land();
        x.letter(1, 0, 15, 0);
        odds(due, x, new int[] {17, 0, 0}, 0, 1);
    }

    @Says("by f tenths (0 .. 10) before")
    static void fOf10IsTheMost(Due due) {
        SlangYears x = land();
        x.letter(1, 0, 15, 0);
        odds(due, x, new int[] {17, 0, 10}, 1, 1);
    }

    @Says("WEIGHT as of a PAGE (nothing left out) of the forger NOW")
    static void theForgerIsAsNow(Due due) {
        SlangYears x = land();
        x.letter(1, 0, 15, 0);
        // 500 NOW at 13, of 400 then
        odds(due, x, new int[] {13, 1, 5}, 5, 9);
    }

    @Says("WEIGHT of the letter's writer in its YEAR")
    static void theWriterIsAsInItsYear(Due due) {
        SlangYears x = land();
        x.letter(1, 0, 15, 1);
        // 400 NOW, of 300 then, which are 500 NOW
        odds(due, x, new int[] {17, 0, 5}, 4, 7);
        x.letter(1, 2, 15, 1);
        odds(due, x, new int[] {17, 0, 5}, 4, 9);
    }

    @Says("WEIGHT of the letter's writer in its YEAR")
    static void theWriterIsAsEachYearHadIt(Due due) {
        SlangYears x = Lands.with(Lands.BUSY);
        int[] young = new int[12];
        int[] parents = new int[12];
        for (int year = 0; year < 12; year++) {
            if (year % 4 == 2) {
                x.song(0, 1, 20 + 3 * year);
            }
            young[year] = x.share(0, 1, 17);
            parents[year] = x.share(0, 1, 40);
            x.go(1);
        }
        for (int year = 0; year < 12; year++) {
            x.letter(1, year, 17, 1);
            oddsOfHalf(due, x, x.share(0, 1, 20), young[year]);
            x.letter(1, year, 40, 1);
            oddsOfHalf(due, x, x.share(0, 1, 20), parents[year]);
        }
    }

    /** By five tenths: the forger's share, by that and the writer's. */
    private static void oddsOfHalf(Due due, SlangYears x, int forger, int writer) {
        int common = commonDivisor(forger, writer);
        odds(due, x, new int[] {20, 1, 5}, forger / common, (forger + writer) / common);
    }

    private static int commonDivisor(int a, int b) {
        return b == 0 ? Math.max(1, Math.abs(a)) : commonDivisor(b, a % b);
    }

    @Says("SHARES of all that are on it")
    static void sharesOfItsWordsAreMultiplied(Due due) {
        SlangYears x = land();
        x.letter(3, 0, 15, 1);
        // 400 * 400 * 2, of that and 300 * 200 * 8
        odds(due, x, new int[] {17, 0, 2}, 2, 5);
    }

    @Says("WEIGHT as of a PAGE (nothing left out)")
    static void nothingIsLeftOut(Due due) {
        SlangYears x = Lands.with(LAND);
        x.go(1);
        x.song(1, 0, 80);
        x.letter(1, 0, 15, 0);
        due.is("share of the other word, of the forger", x.share(1, 0, 16), 800);
        odds(due, x, new int[] {16, 0, 5}, 1, 2);
    }

    @Says("WEIGHT as of a PAGE (nothing left out)")
    static void aLetterWithoutWordsWeighsAsMuchAsAny(Due due) {
        SlangYears x = land();
        x.letter(0, 0, 30, 1);
        odds(due, x, new int[] {50, 0, 7}, 7, 10);
    }

    @Says("in least terms")
    static void aForgerWhoHasItNotIs0By1(Due due) {
        SlangYears x = land();
        x.letter(1, 0, 15, 0);
        odds(due, x, new int[] {40, 0, 5}, 0, 1);
    }

    @Says("in least terms")
    static void whereTheWriterHasItNotItIs1By1(Due due) {
        SlangYears x = land();
        x.letter(1, 0, 30, 1);
        odds(due, x, new int[] {17, 0, 1}, 1, 1);
    }

    @Says("FORGED: upper (what = 0), lower number (1), in least terms.")
    static void numbersAboveAllIntsAreWhole(Due due) {
        SlangYears x = Lands.with("place;law 0 0 0;start 99;word 0 0 0;word 0 0 0;word 0 0 0;word 0 0 0;word 0 0 0;");
        for (int w = 0; w < 5; w++) {
            x.song(w, 0, 1);
        }
        x.letter(31, 0, 15, 0);
        // 10 to the 5th, by that and 990 to the 5th
        odds(due, x, new int[] {13, 0, 5}, 1, 1 + 99L * 99 * 99 * 99 * 99);
    }

    @Says("FORGED by one of AGE b at PLACE q")
    static void theFifthWordAndTheThirdPlaceStand(Due due) {
        SlangYears x = Lands.with(Lands.ALL);
        x.song(4, 2, 20);
        x.letter(16, 0, 15, 2);
        // 200, by that and 400
        odds(due, x, new int[] {13, 2, 5}, 1, 3);
    }

    @Says("FORGED by one of AGE b at PLACE q")
    static void ages10And69Stand(Due due) {
        SlangYears x = land();
        x.letter(0, 0, 15, 0);
        odds(due, x, new int[] {10, 0, 5}, 1, 2);
        odds(due, x, new int[] {69, 1, 5}, 1, 2);
    }

    @Says("WEIGHT of the letter's writer in its YEAR")
    static void itsYearMayBeNow(Due due) {
        SlangYears x = land();
        x.letter(1, 2, 13, 1);
        odds(due, x, new int[] {17, 0, 5}, 4, 9);
    }

    // ---- refused

    @Says("-2: STATE (no LETTER, or its YEAR is not up to NOW, too).")
    static void withoutALetterItIsState(Due due) {
        Twins.refused(due, () -> Lands.with(Lands.BUSY), x -> x.forged(15, 0, 5, 0), SlangYears.STATE);
    }

    @Says("-2: STATE (no LETTER, or its YEAR is not up to NOW, too).")
    static void aYearBehindNowIsState(Due due) {
        SlangYears x = Lands.with(LAND);
        x.go(1);
        x.keep(0);
        x.go(1);
        x.letter(1, 2, 17, 0);
        odds(due, x, new int[] {17, 0, 5}, 1, 2);
        x.back(0);
        odds(due, x, new int[] {17, 0, 5}, SlangYears.STATE, SlangYears.STATE);
    }

    private static SlangYears busyWithAWordNotCoined() {
        SlangYears x = Lands.busy();
        x.letter(8, 0, 15, 0);
        return x;
    }

    @Says("a fraction (STATE: both are 0).")
    static void whereBothHaveItNotItIsState(Due due) {
        SlangYears x = land();
        x.letter(1, 0, 30, 0);
        odds(due, x, new int[] {40, 0, 5}, SlangYears.STATE, SlangYears.STATE);
        Twins.refused(due, Promise20::busyWithAWordNotCoined, y -> y.forged(15, 0, 5, 0), SlangYears.STATE);
    }

    @Says("a fraction (STATE: both are 0).")
    static void aWeightOf1IsNot0(Due due) {
        SlangYears x = Lands.with("place;place;near 0 1 1;law 1 0 0;start 30;word 0 0 0;");
        x.go(1);
        x.letter(1, 1, 30, 0);
        due.is("share of the forger", x.share(0, 1, 13), 1);
        odds(due, x, new int[] {13, 1, 1}, 1, 1);
    }

    @Says("a fraction (STATE: both are 0).")
    static void theOnlyOneTimes0IsState(Due due) {
        SlangYears x = land();
        x.letter(1, 0, 15, 0);
        odds(due, x, new int[] {40, 0, 10}, SlangYears.STATE, SlangYears.STATE);
        x.letter(1, 0, 30, 0);
        odds(due, x, new int[] {17, 0, 0}, SlangYears.STATE, SlangYears.STATE);
    }

    @Says("by f tenths (0 .. 10) before")
    static void fOf11AndAboveIsBad(Due due) {
        bad(due, 15, 0, 11, 0);
        bad(due, 15, 0, Integer.MAX_VALUE, 0);
    }

    @Says("by f tenths (0 .. 10) before")
    static void fBelow0IsBad(Due due) {
        bad(due, 15, 0, -1, 0);
        bad(due, 15, 0, Integer.MIN_VALUE, 0);
    }

    @Says("FORGED by one of AGE b at PLACE q")
    static void ageOf9AndBelowIsBad(Due due) {
        bad(due, 9, 0, 5, 0);
        bad(due, Integer.MIN_VALUE, 0, 5, 0);
    }

    @Says("FORGED by one of AGE b at PLACE q")
    static void ageOf70AndAboveIsBad(Due due) {
        bad(due, 70, 0, 5, 0);
        bad(due, Integer.MAX_VALUE, 0, 5, 0);
    }

    @Says("FORGED by one of AGE b at PLACE q")
    static void aPlaceThatThereIsNotIsBad(Due due) {
        bad(due, 15, 3, 5, 0);
        bad(due, 15, -1, 5, 0);
        bad(due, 15, Integer.MAX_VALUE, 5, 0);
        bad(due, 15, Integer.MIN_VALUE, 5, 0);
    }

    @Says("FORGED: upper (what = 0), lower number (1)")
    static void whatOf2AndAboveIsBad(Due due) {
        bad(due, 15, 0, 5, 2);
        bad(due, 15, 0, 5, Integer.MAX_VALUE);
    }

    @Says("FORGED: upper (what = 0), lower number (1)")
    static void whatBelow0IsBad(Due due) {
        bad(due, 15, 0, 5, -1);
        bad(due, 15, 0, 5, Integer.MIN_VALUE);
    }

    @Says("the first of these: BAD (a number is not as told, or there is no such thing), STATE (as told)")
    static void badIsAheadOfState(Due due) {
        SlangYears x = Lands.with(LAND);
        due.is("f of 11 without a letter", x.forged(15, 0, 11, 0), SlangYears.BAD);
        due.is("age 9 without a letter", x.forged(9, 0, 5, 0), SlangYears.BAD);
        due.is("place 2 without a letter", x.forged(15, 2, 5, 0), SlangYears.BAD);
        due.is("what of 2 without a letter", x.forged(15, 0, 5, 2), SlangYears.BAD);
        due.is("without places", new SlangYears().forged(15, 0, 5, 0), SlangYears.BAD);
    }

    @Says("FORGED: upper (what = 0), lower number (1), in least terms.")
    static void nothingChangesByIt(Due due) {
        SlangYears x = Lands.busy();
        x.forged(15, 0, 5, 0);
        Twins.alike(due, "behind forged(), ", x, Lands.busy());
    }
}
