/** Promise 18, letter(words, year, age, p). */
final class Promise18 {
    private static final String THE_LETTER = "THE LETTER becomes so (WORDS that there are not are left out): how "
        + "many WORDS it has.";

    private Promise18() { }

    private static void bad(Due due, int year, int age, int p) {
        Twins.refused(due, Lands::busy, x -> x.letter(1, year, age, p), SlangYears.BAD);
    }

    private static SlangYears inYear5() {
        SlangYears x = Lands.with(Lands.TWO_STILL);
        x.go(5);
        return x;
    }

    @Says(THE_LETTER)
    static void itAnswersHowManyWordsItHas(Due due) {
        SlangYears x = inYear5();
        due.is("letter of 7", x.letter(7, 0, 15, 0), 3);
        due.is("letter of 5", x.letter(5, 0, 15, 0), 2);
        due.is("letter of 2", x.letter(2, 0, 15, 0), 1);
    }

    @Says(THE_LETTER)
    static void wordsThatThereAreNotAreLeftOut(Due due) {
        SlangYears x = inYear5();
        due.is("letter of 15", x.letter(15, 0, 15, 0), 3);
        due.is("letter of all bits", x.letter(-1, 0, 15, 0), 3);
        due.is("could(): no bits of them", x.could(), 6);
        due.is("letter of bit 31 and of 1", x.letter(1 << 31 | 1, 0, 15, 0), 1);
    }

    @Says(THE_LETTER)
    static void itMayHaveFive(Due due) {
        SlangYears x = Lands.with(Lands.ALL);
        due.is("letter of 31 at the third place", x.letter(31, 0, 15, 2), 5);
        due.is("could()", x.could(), 1 | 2 | 8);
        due.is("letter of 63", x.letter(63, 0, 15, 2), 5);
        due.is("letter of 16", x.letter(16, 0, 15, 2), 1);
        due.is("could()", x.could(), 0);
    }

    @Says(THE_LETTER)
    static void inALandWithoutWordsItHasNone(Due due) {
        SlangYears x = Lands.with("place;");
        due.is("letter of all bits", x.letter(-1, 0, 15, 0), 0);
        due.is("could()", x.could(), 0);
    }

    @Says(THE_LETTER)
    static void itMayHaveNoWords(Due due) {
        SlangYears x = inYear5();
        due.is("letter of 0", x.letter(0, 0, 15, 0), 0);
        due.is("could()", x.could(), 0);
        due.is("letter of 8", x.letter(8, 0, 15, 0), 0);
        due.is("could()", x.could(), 0);
    }

    @Says(THE_LETTER)
    static void wordsThatAreNotCoinedMayBeOnIt(Due due) {
        SlangYears x = Lands.with(Lands.TWO_STILL);
        due.is("letter of a word not COINED", x.letter(4, 0, 15, 0), 1);
        due.is("could()", x.could(), 4);
    }

    @Says("THE LETTER becomes so")
    static void aLetterToldAgainIsAsTheLater(Due due) {
        SlangYears x = inYear5();
        x.letter(1, 0, 15, 0);
        due.is("could() of the first", x.could(), 0);
        x.letter(3, 1, 15, 1);
        due.is("could() of the second", x.could(), 3);
        x.letter(3, 1, 16, 1);
        due.is("could() of the third", x.could(), 1);
        x.letter(3, 1, 16, 0);
        due.is("could() of the fourth", x.could(), 2);
    }

    @Says("A LETTER: WORDS (bits), a YEAR (0 .. NOW)")
    static void year0IsTheLeast(Due due) {
        due.is("letter of year 0", inYear5().letter(1, 0, 15, 0), 1);
    }

    @Says("A LETTER: WORDS (bits), a YEAR (0 .. NOW)")
    static void theYearNowIsTheMost(Due due) {
        due.is("letter of year 5", inYear5().letter(1, 5, 15, 0), 1);
        due.is("letter of year 0 in year 0", Lands.still().letter(1, 0, 15, 0), 1);
        SlangYears x = Lands.busyInYear99();
        due.is("letter of year 99", x.letter(1, 99, 15, 0), 1);
    }

    @Says("A LETTER: WORDS (bits), a YEAR (0 .. NOW)")
    static void aYearBehindNowIsBad(Due due) {
        bad(due, 8, 15, 0);
        bad(due, 99, 15, 0);
        bad(due, Integer.MAX_VALUE, 15, 0);
        due.is("letter of year 100 in year 99", Lands.busyInYear99().letter(1, 100, 15, 0), SlangYears.BAD);
        due.is("letter of year 1 in year 0", Lands.still().letter(1, 1, 15, 0), SlangYears.BAD);
    }

    @Says("A LETTER: WORDS (bits), a YEAR (0 .. NOW)")
    static void aYearBelow0IsBad(Due due) {
        bad(due, -1, 15, 0);
        bad(due, Integer.MIN_VALUE, 15, 0);
    }

    @Says("an AGE (10 .. 69)")
    static void ages10And69Stand(Due due) {
        SlangYears x = inYear5();
        due.is("letter of 10", x.letter(1, 0, 10, 0), 1);
        due.is("letter of 69", x.letter(1, 0, 69, 0), 1);
        due.is("could()", x.could(), 1);
    }

    @Says("an AGE (10 .. 69)")
    static void ageOf9AndBelowIsBad(Due due) {
        bad(due, 1, 9, 0);
        bad(due, 1, Integer.MIN_VALUE, 0);
    }

    @Says("an AGE (10 .. 69)")
    static void ageOf70AndAboveIsBad(Due due) {
        bad(due, 1, 70, 0);
        bad(due, 1, Integer.MAX_VALUE, 0);
    }

    @Says("BAD (a number is not as told, or there is no such thing)")
    static void aPlaceThatThereIsNotIsBad(Due due) {
        bad(due, 1, 15, 3);
        bad(due, 1, 15, -1);
        bad(due, 1, 15, Integer.MAX_VALUE);
        bad(due, 1, 15, Integer.MIN_VALUE);
        due.is("letter of place 1 of one", Lands.still().letter(1, 0, 15, 1), SlangYears.BAD);
        due.is("letter without places", new SlangYears().letter(0, 0, 15, 0), SlangYears.BAD);
    }

    @Says("Refused, and nothing changes")
    static void behindARefusedOneTheLetterOfBeforeStays(Due due) {
        SlangYears x = inYear5();
        x.letter(3, 0, 15, 0);
        x.letter(1, 6, 15, 0);
        due.is("could()", x.could(), 2);
        x = inYear5();
        x.letter(1, 0, 70, 0);
        due.is("could() where none was told", x.could(), SlangYears.STATE);
    }
}
