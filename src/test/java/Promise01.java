/** Promise 1, SlangYears(): a new object. */
final class Promise01 {
    private Promise01() { }

    @Says("As told; no PLACES, no WORDS; THE LOT is 1.")
    static void thereAreNoPlaces(Due due) {
        due.is("count(0)", new SlangYears().count(0), 0);
    }

    @Says("As told; no PLACES, no WORDS; THE LOT is 1.")
    static void thereAreNoWords(Due due) {
        SlangYears x = new SlangYears();
        due.is("count(1)", x.count(1), 0);
        due.is("word(0, 0)", x.word(0, 0), SlangYears.BAD);
    }

    @Says("As told; no PLACES, no WORDS; THE LOT is 1.")
    static void theLotIs1(Due due) {
        due.is("lot(7)", new SlangYears().lot(7), 1);
    }

    @Says("YEAR: 0 at first")
    static void theYearIs0(Due due) {
        due.is("count(2)", new SlangYears().count(2), 0);
    }

    @Says("As told")
    static void thereAreNoSongs(Due due) {
        due.is("count(3)", new SlangYears().count(3), 0);
    }

    @Says("As told")
    static void thereAreNoWritings(Due due) {
        due.is("count(4)", new SlangYears().count(4), 0);
    }

    @Says("As told")
    static void theTextIsEmpty(Due due) {
        SlangYears x = new SlangYears();
        due.is("count(5)", x.count(5), 0);
        due.is("land()", x.land(), 0);
    }

    @Says("THE LAW: TAKE (0 .. 9; 6 at first)")
    static void takeIs6(Due due) {
        due.is("law(0)", new SlangYears().law(0), 6);
    }

    @Says("LEARN (0 .. 9; 3)")
    static void learnIs3(Due due) {
        due.is("law(1)", new SlangYears().law(1), 3);
    }

    @Says("DROP (0 .. 9; 5)")
    static void dropIs5(Due due) {
        due.is("law(2)", new SlangYears().law(2), 5);
    }

    @Says("START (1 .. 99 hundredths; 20)")
    static void startIs20(Due due) {
        due.is("law(3)", new SlangYears().law(3), 20);
    }

    @Says("LATE (0 .. 30; 2 at first)")
    static void lateIs2(Due due) {
        due.is("law(4)", new SlangYears().law(4), 2);
    }

    @Says("are added to THE TRACE, 0 at first")
    static void theTraceIs0(Due due) {
        due.is("trace()", new SlangYears().trace(), 0);
    }

    @Says("STATE: no LETTER")
    static void thereIsNoLetter(Due due) {
        due.is("could()", new SlangYears().could(), SlangYears.STATE);
    }

    @Says("STATE: none was kept.")
    static void thereIsNoImage0(Due due) {
        due.is("back(0)", new SlangYears().back(0), SlangYears.STATE);
    }

    @Says("STATE: none was kept.")
    static void thereIsNoImage1(Due due) {
        due.is("back(1)", new SlangYears().back(1), SlangYears.STATE);
    }

    @Says("BAD = -1, STATE = -2, FULL = -3, NONE = -9;")
    static void theConstantsAreAsTold(Due due) {
        due.is("BAD", SlangYears.BAD, -1);
        due.is("STATE", SlangYears.STATE, -2);
        due.is("FULL", SlangYears.FULL, -3);
        due.is("NONE", SlangYears.NONE, -9);
    }

    @Says("`NO = -1000000`: What none is, where a number may be below 0.")
    static void theConstantNoIsAsTold(Due due) {
        due.is("NO", SlangYears.NO, -1000000);
    }

    @Says("As told; no PLACES, no WORDS; THE LOT is 1.")
    static void whatBecameOfAnotherObjectDoesNotMatter(Due due) {
        SlangYears untouched = new SlangYears();
        Lands.busy();
        Twins.alike(due, "", new SlangYears(), untouched);
    }
}
