/** Promise 22, part(w). */
final class Promise22 {
    private static final String PART = "A SONG's part: PEAK of LIFE up to NOW less that without any SONGS.";

    private static final String LAND = "place;place;law 0 0 0;start 50;word 1 0 0;word 1 5 1;";

    private Promise22() { }

    private static void no(Due due, int w) {
        Twins.refused(due, Lands::busy, x -> x.part(w), SlangYears.NO);
    }

    @Says(PART)
    static void itIsByHowMuchThePeakIsHigher(Due due) {
        SlangYears x = Lands.with(LAND);
        x.go(1);
        x.song(0, 1, 40);
        due.is("part(0): (214 + 400) / 2 less 214 / 2", x.part(0), 307 - 107);
    }

    @Says(PART)
    static void withoutSongsItIs0(Due due) {
        SlangYears x = Lands.with(LAND);
        due.is("part(0)", x.part(0), 0);
        x.go(30);
        due.is("part(0) in year 30", x.part(0), 0);
    }

    @Says(PART)
    static void aSongBelowThePeakHasNone(Due due) {
        SlangYears x = Lands.with(LAND);
        x.go(10);
        x.song(0, 0, 20);
        due.is("part(0)", x.part(0), 0);
    }

    @Says(PART)
    static void itIsOfThePeakUpToNow(Due due) {
        SlangYears x = Lands.with("place;law 6 0 0;start 50;word 1 0 0;");
        x.go(3);
        int peak = x.life(0, 0);
        due.is("it would still grow", Lands.with("place;law 6 0 0;start 50;word 1 0 0;").go(4), 4);
        x.song(0, 0, 99);
        due.is("part(0)", x.part(0), 990 - peak);
    }

    @Says(PART)
    static void thePeakMayBeLongAgo(Due due) {
        SlangYears x = Lands.with(LAND);
        x.song(0, 0, 70);
        x.go(60);
        due.is("part(0): 700 / 2 less 214 / 2", x.part(0), 350 - 107);
    }

    @Says(PART)
    static void allItsSongsAreLeftOut(Due due) {
        SlangYears x = Lands.with(LAND);
        x.song(0, 0, 30);
        x.go(1);
        x.song(0, 0, 60);
        x.song(0, 1, 60);
        due.is("part(0): 600 less 214 / 2", x.part(0), 600 - 107);
    }

    @Says(PART)
    static void allTenSongsAreLeftOut(Due due) {
        SlangYears x = Lands.with(LAND);
        for (int i = 0; i < 10; i++) {
            x.song(0, i % 2, 60 + i);
        }
        due.is("part(0): (680 + 690) / 2 less 214 / 2", x.part(0), 685 - 107);
    }

    @Says(PART)
    static void whatCameOfASongCountsToo(Due due) {
        SlangYears x = Lands.with("place;law 9 0 0;start 10;word 1 0 0;");
        x.song(0, 0, 30);
        x.go(2);
        SlangYears unsung = Lands.with("place;law 9 0 0;start 10;word 1 0 0;");
        unsung.go(2);
        due.is("the PEAK is of NOW", x.life(0, 1), 2);
        due.is("part(0)", x.part(0), x.life(0, 0) - unsung.life(0, 0));
    }

    @Says(PART)
    static void songsOfAnotherWordAreNotItsPart(Due due) {
        SlangYears x = Lands.with(LAND);
        x.go(5);
        x.song(1, 0, 60);
        due.is("part(0)", x.part(0), 0);
        due.is("part(1): (600 + 214) / 2 less 214 / 2", x.part(1), 407 - 107);
    }

    @Says("A SONG's part. NO: BAD.")
    static void ofAWordThatIsNotCoinedItIs0(Due due) {
        due.is("part(1)", Lands.with(LAND).part(1), 0);
    }

    @Says("WORDS 0 .. (5 at most)")
    static void theFifthWordAndTheThirdPlaceStand(Due due) {
        SlangYears x = Lands.with(Lands.ALL);
        x.song(4, 2, 60);
        due.is("part(4): 600 / 3 less 171 / 3", x.part(4), 200 - 57);
        due.is("part(2)", x.part(2), 0);
    }

    @Says("A SONG's part. NO: BAD.")
    static void ofAWordThatThereIsNotItIsNo(Due due) {
        no(due, 4);
        no(due, -1);
        no(due, Integer.MAX_VALUE);
        no(due, Integer.MIN_VALUE);
        due.is("part(0) without a land", new SlangYears().part(0), SlangYears.NO);
    }

    @Says(PART)
    static void nothingChangesByIt(Due due) {
        SlangYears x = Lands.busy();
        x.part(0);
        x.part(2);
        Twins.alike(due, "behind part(), ", x, Lands.busy());
    }
}
