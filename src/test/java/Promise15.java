/** Promise 15, printed(w, what). */
final class Promise15 {
    /** MEAN of PARENTS, of 15 to 17: 67 when they are 34 to 36 in year 24, 101 in year 25. */
    private static final String LAND = "place;law 0 0 0;start 54;word 1 5 0;";

    private Promise15() { }

    private static void bad(Due due, int w, int what) {
        Twins.refused(due, Lands::busy, x -> x.printed(w, what), SlangYears.BAD);
    }

    private static SlangYears after(int years, String land) {
        SlangYears x = Lands.with(land);
        x.go(years);
        return x;
    }

    @Says("PRINTED: the first YEAR up to NOW with a MEAN of PARENTS of 100 at least, and LATE")
    static void aMeanOf100IsEnough(Due due) {
        SlangYears x = Lands.with("place;law 0 0 0;start 1;word 1 0 0;");
        x.song(0, 0, 40);
        x.go(18);
        due.is("MEAN of PARENTS in year 18", x.has(0, -1, 1), 75);
        due.is("PRINTED", x.printed(0, 0), SlangYears.NONE);
        x.go(1);
        due.is("MEAN of PARENTS in year 19", x.has(0, -1, 1), 100);
        due.is("PRINTED", x.printed(0, 0), 21);
    }

    @Says("PRINTED: the first YEAR up to NOW with a MEAN of PARENTS of 100 at least, and LATE")
    static void aMeanOf99IsNotEnough(Due due) {
        SlangYears x = after(20, "place;law 0 0 0;start 53;word 1 0 0;");
        due.is("MEAN of PARENTS: 1590 / 16", x.has(0, -1, 1), 99);
        x.go(79);
        due.is("PRINTED", x.printed(0, 0), SlangYears.NONE);
    }

    @Says("PRINTED: the first YEAR up to NOW with a MEAN of PARENTS of 100 at least, and LATE")
    static void itIsTheMeanOfAllPlaces(Due due) {
        SlangYears x = after(20, "place;place;law 0 0 0;start 99;word 1 0 0;");
        due.is("PARENTS at 0", x.has(0, 0, 1), 185);
        due.is("MEAN of PARENTS", x.has(0, -1, 1), 92);
        due.is("PRINTED", x.printed(0, 0), SlangYears.NONE);
    }

    @Says("the first YEAR up to NOW")
    static void nowIsOneOfTheYears(Due due) {
        SlangYears x = after(24, LAND);
        due.is("PRINTED in year 24", x.printed(0, 0), SlangYears.NONE);
        x.go(1);
        due.is("PRINTED in year 25", x.printed(0, 0), 27);
    }

    @Says("the first YEAR up to NOW")
    static void itIsTheFirstSuch(Due due) {
        SlangYears x = after(26, LAND);
        due.is("PRINTED in year 26", x.printed(0, 0), 27);
        x.go(73);
        due.is("PRINTED in year 99", x.printed(0, 0), 27);
    }

    @Says("the first YEAR up to NOW")
    static void yearsBehindNowDoNotCount(Due due) {
        SlangYears x = after(25, LAND);
        x.anew();
        due.is("PRINTED anew", x.printed(0, 0), SlangYears.NONE);
        x.go(24);
        due.is("PRINTED in year 24", x.printed(0, 0), SlangYears.NONE);
    }

    @Says("and LATE (0 .. 30; 2 at first)")
    static void lateIsAdded(Due due) {
        SlangYears x = after(25, LAND);
        due.is("PRINTED, LATE of 2", x.printed(0, 0), 27);
        x.late(0);
        due.is("PRINTED, LATE of 0", x.printed(0, 0), 25);
        x.late(30);
        due.is("PRINTED, LATE of 30", x.printed(0, 0), 55);
        due.is("SAID, LATE of 30", x.printed(0, 1), 50);
    }

    @Says("SAID: by how much that is behind its YEAR.")
    static void saidIsFromItsYearOn(Due due) {
        due.is("SAID of a word of YEAR 5", after(25, LAND).printed(0, 1), 22);
        due.is("SAID of a word of YEAR 0", after(20, "place;law 0 0 0;start 54;word 1 0 0;").printed(0, 1), 22);
    }

    @Says("and LATE (0 .. 30; 2 at first); NONE; SAID")
    static void whatIsNotPrintedIsNone(Due due) {
        SlangYears x = after(24, LAND);
        due.is("PRINTED", x.printed(0, 0), SlangYears.NONE);
        due.is("SAID", x.printed(0, 1), SlangYears.NONE);
    }

    @Says("PRINTED (what = 0), SAID (1); NONE. BAD.")
    static void ofAWordThatIsNotCoinedItIsNone(Due due) {
        SlangYears x = after(4, LAND);
        due.is("PRINTED", x.printed(0, 0), SlangYears.NONE);
        due.is("SAID", x.printed(0, 1), SlangYears.NONE);
    }

    @Says("PRINTED (what = 0), SAID (1); NONE. BAD.")
    static void whatOf2AndAboveIsBad(Due due) {
        bad(due, 0, 2);
        bad(due, 0, Integer.MAX_VALUE);
    }

    @Says("PRINTED (what = 0), SAID (1); NONE. BAD.")
    static void whatBelow0IsBad(Due due) {
        bad(due, 0, -1);
        bad(due, 0, Integer.MIN_VALUE);
    }

    @Says("WORDS 0 .. (5 at most)")
    static void theFifthWordStands(Due due) {
        SlangYears x = Lands.with(Lands.ALL);
        for (int p = 0; p < 3; p++) {
            x.song(4, p, 99);
        }
        x.go(17);
        due.is("printed(4, 0): PARENTS of 1980 / 16 in year 17", x.printed(4, 0), 19);
        due.is("printed(3, 0)", x.printed(3, 0), SlangYears.NONE);
    }

    @Says("BAD (a number is not as told, or there is no such thing)")
    static void aWordThatThereIsNotIsBad(Due due) {
        bad(due, 4, 0);
        bad(due, -1, 0);
        bad(due, Integer.MAX_VALUE, 0);
        bad(due, Integer.MIN_VALUE, 1);
        due.is("printed(0, 0) without a land", new SlangYears().printed(0, 0), SlangYears.BAD);
    }
}
