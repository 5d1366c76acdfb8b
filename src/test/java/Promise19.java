/** Promise 19, could(). */
final class Promise19 {
    private static final String COULD_NOT = "COULD NOT: those of its WORDS with a SHARE of 0 at that YEAR's begin, "
        + "there, at that AGE.";

    private Promise19() { }

    @Says(COULD_NOT)
    static void aShareOf0CouldNot(Due due) {
        SlangYears x = Lands.with("place;place;near 0 1 1;law 1 0 0;start 30;word 0 0 0;");
        due.is("share in year 0", x.share(0, 1, 13), 0);
        x.letter(1, 0, 13, 1);
        due.is("could()", x.could(), 1);
    }

    @Says(COULD_NOT)
    static void aShareOf1Could(Due due) {
        SlangYears x = Lands.with("place;place;near 0 1 1;law 1 0 0;start 30;word 0 0 0;");
        x.go(1);
        due.is("share in year 1: 12 / 10", x.share(0, 1, 13), 1);
        x.letter(1, 1, 13, 1);
        due.is("could()", x.could(), 0);
    }

    @Says(COULD_NOT)
    static void itIsOfItsWordsAlone(Due due) {
        SlangYears x = Lands.with(Lands.TWO_STILL);
        x.letter(7, 0, 15, 0);
        due.is("could() of all three", x.could(), 6);
        x.letter(5, 0, 15, 0);
        due.is("could() of two", x.could(), 4);
        x.letter(1, 0, 15, 0);
        due.is("could() of the one that could", x.could(), 0);
    }

    @Says("COULD NOT, as bits.")
    static void bit0IsWord0AndBit4Word4(Due due) {
        SlangYears x = Lands.with("place;start 9;word 0 1 0;word 0 0 0;word 0 0 0;word 0 0 0;word 0 1 0;");
        x.letter(31, 0, 15, 0);
        due.is("could()", x.could(), 17);
    }

    @Says(COULD_NOT)
    static void itIsAtItsPlace(Due due) {
        SlangYears x = Lands.with(Lands.TWO_STILL);
        x.letter(3, 0, 15, 0);
        due.is("could() at 0", x.could(), 2);
        x.letter(3, 0, 15, 1);
        due.is("could() at 1", x.could(), 1);
    }

    @Says(COULD_NOT)
    static void itIsAtItsAge(Due due) {
        SlangYears x = Lands.with(Lands.TWO_STILL);
        x.letter(1, 0, 14, 0);
        due.is("could() at 14", x.could(), 1);
        x.letter(1, 0, 17, 0);
        due.is("could() at 17", x.could(), 0);
        x.letter(1, 0, 18, 0);
        due.is("could() at 18", x.could(), 1);
    }

    @Says("with a SHARE of 0 at that YEAR's begin")
    static void itIsOfItsYearNotOfNow(Due due) {
        SlangYears x = Lands.with(Lands.TWO_STILL);
        x.go(6);
        x.letter(1, 0, 15, 0);
        due.is("could() at 15 in year 0", x.could(), 0);
        x.letter(1, 1, 15, 0);
        due.is("could() at 15 in year 1", x.could(), 1);
        x.letter(1, 3, 20, 0);
        due.is("could() at 20 in year 3", x.could(), 0);
    }

    @Says("or its YEAR is not up to NOW")
    static void itsYearMayBeNow(Due due) {
        SlangYears x = Lands.with(Lands.TWO_STILL);
        x.go(5);
        x.letter(1, 5, 20, 0);
        due.is("could() at 20 in year 5", x.could(), 0);
        x.letter(1, 5, 19, 0);
        due.is("could() at 19 in year 5", x.could(), 1);
    }

    @Says("WORDS that are COINED in it, its SONGS are in it.")
    static void aWordThatIsCoinedInItsYearCould(Due due) {
        SlangYears x = Lands.with(Lands.TWO_STILL);
        x.go(4);
        x.letter(4, 0, 15, 0);
        due.is("could() the year ahead", x.could(), 4);
        x.letter(4, 1, 15, 0);
        due.is("could() in its year", x.could(), 0);
    }

    @Says("WORDS that are COINED in it, its SONGS are in it.")
    static void aSongOfItsYearIsInIt(Due due) {
        SlangYears x = Lands.with(Lands.TWO_STILL);
        x.go(1);
        x.song(1, 0, 1);
        x.letter(2, 1, 13, 0);
        due.is("could() in the song's year, NOW", x.could(), 0);
        x.go(4);
        due.is("could() later", x.could(), 0);
        x.letter(2, 0, 13, 0);
        due.is("could() the year ahead", x.could(), 2);
        x.letter(2, 2, 13, 0);
        due.is("could() at 13 the year behind", x.could(), 2);
        x.letter(2, 2, 20, 0);
        due.is("could() at 20 the year behind", x.could(), 0);
    }

    @Says("then SONGS of that YEAR (in order): SHARES of AGES 13 to 19 at a PLACE become 10 G at least")
    static void theTenthSongIsInItToo(Due due) {
        SlangYears x = Lands.with(Lands.TWO_STILL);
        for (int i = 0; i < 9; i++) {
            x.song(0, 0, 1 + i);
            x.go(1);
        }
        x.song(1, 0, 1);
        x.go(1);
        x.letter(2, 9, 13, 0);
        due.is("could() in the tenth song's year", x.could(), 0);
        x.letter(2, 8, 13, 0);
        due.is("could() the year ahead", x.could(), 2);
    }

    @Says("with a SHARE of 0 at that YEAR's begin")
    static void whatParentsHadLearntByThenCounts(Due due) {
        SlangYears x = Lands.with("place;law 0 9 0;start 70;word 0 0 0;");
        x.go(9);
        x.letter(1, 2, 40, 0);
        due.is("could() of 40 in year 2", x.could(), 1);
        x.letter(1, 3, 40, 0);
        due.is("could() of 40 in year 3", x.could(), 0);
        SlangYears unlearnt = Lands.with("place;law 9 0 9;start 70;word 0 0 0;");
        unlearnt.go(9);
        unlearnt.letter(1, 3, 40, 0);
        due.is("could() where nobody learns", unlearnt.could(), 1);
    }

    @Says("with a SHARE of 0 at that YEAR's begin")
    static void whereNobodyTakesItUpTheYoungCouldNot(Due due) {
        SlangYears x = Lands.with("place;law 0 9 9;start 70;word 0 0 0;");
        x.go(9);
        x.letter(1, 1, 13, 0);
        due.is("could() of 13 where TAKE is 0", x.could(), 1);
        x = Lands.with("place;law 9 0 0;start 70;word 0 0 0;");
        x.go(9);
        x.letter(1, 1, 13, 0);
        due.is("could() of 13 where TAKE is 9", x.could(), 0);
    }

    @Says("STATE: no LETTER, or its YEAR is not up to NOW.")
    static void withoutALetterItIsState(Due due) {
        due.is("could() of a new object", new SlangYears().could(), SlangYears.STATE);
        Twins.refused(due, () -> Lands.with(Lands.BUSY), SlangYears::could, SlangYears.STATE);
    }

    @Says("STATE: no LETTER, or its YEAR is not up to NOW.")
    static void aYearBehindNowIsState(Due due) {
        SlangYears x = Lands.with(Lands.TWO_STILL);
        x.go(2);
        x.keep(0);
        x.go(1);
        x.letter(1, 3, 18, 0);
        due.is("could() in year 3", x.could(), 0);
        x.back(0);
        due.is("could() back in year 2", x.could(), SlangYears.STATE);
        x.anew();
        due.is("could() anew", x.could(), SlangYears.STATE);
    }

    @Says("STATE: no LETTER, or its YEAR is not up to NOW.")
    static void whenItsYearHasComeAgainItStands(Due due) {
        SlangYears x = Lands.with(Lands.TWO_STILL);
        x.go(3);
        x.song(1, 0, 30);
        x.letter(2, 3, 13, 0);
        due.is("could() with the song", x.could(), 0);
        x.anew();
        x.go(2);
        due.is("could() in year 2", x.could(), SlangYears.STATE);
        x.go(1);
        due.is("could() in year 3 without the song", x.could(), 2);
    }

    @Says("COULD NOT, as bits.")
    static void nothingChangesByIt(Due due) {
        SlangYears x = Lands.busy();
        due.is("could()", x.could(), 0);
        Twins.alike(due, "behind could(), ", x, Lands.busy());
    }
}
