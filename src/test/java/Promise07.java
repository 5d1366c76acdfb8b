/** Promise 7, near(p, q). */
final class Promise07 {
    private static final String THREE = "place;place;place;near 0 1 3;near 2 1 9;near 0 2 8;";

    private Promise07() { }

    private static void bad(Due due, int p, int q) {
        Twins.refused(due, Lands::busy, x -> x.near(p, q), SlangYears.BAD);
    }

    @Says("0 at first")
    static void itIs0AtFirst(Due due) {
        SlangYears x = Lands.with("place;place;place;near 0 1 3;");
        due.is("near(0, 2)", x.near(0, 2), 0);
        due.is("near(2, 1)", x.near(2, 1), 0);
    }

    @Says("(0 .. 9 tenths, either way; 0 at first)")
    static void itIsAsToldOfEachTwo(Due due) {
        SlangYears x = Lands.with(THREE);
        due.is("near(0, 1)", x.near(0, 1), 3);
        due.is("near(2, 1)", x.near(2, 1), 9);
        due.is("near(0, 2)", x.near(0, 2), 8);
    }

    @Says("(0 .. 9 tenths, either way; 0 at first)")
    static void itIsSoEitherWay(Due due) {
        SlangYears x = Lands.with(THREE);
        due.is("near(1, 0)", x.near(1, 0), 3);
        due.is("near(1, 2)", x.near(1, 2), 9);
        due.is("near(2, 0)", x.near(2, 0), 8);
    }

    @Says("NEAR. BAD (one and the same, too).")
    static void oneAndTheSameIsBad(Due due) {
        bad(due, 0, 0);
        bad(due, 1, 1);
        bad(due, 2, 2);
    }

    @Says("BAD (a number is not as told, or there is no such thing)")
    static void pBelow0IsBad(Due due) {
        bad(due, -1, 0);
        bad(due, Integer.MIN_VALUE, 0);
    }

    @Says("BAD (a number is not as told, or there is no such thing)")
    static void qBelow0IsBad(Due due) {
        bad(due, 0, -1);
        bad(due, 0, Integer.MIN_VALUE);
    }

    @Says("BAD (a number is not as told, or there is no such thing)")
    static void pBehindTheLastIsBad(Due due) {
        bad(due, 3, 0);
        bad(due, Integer.MAX_VALUE, 0);
        due.is("near(2, 0) of two", Lands.with("place;place;").near(2, 0), SlangYears.BAD);
    }

    @Says("BAD (a number is not as told, or there is no such thing)")
    static void qBehindTheLastIsBad(Due due) {
        bad(due, 0, 3);
        bad(due, 0, Integer.MAX_VALUE);
        due.is("near(0, 2) of two", Lands.with("place;place;").near(0, 2), SlangYears.BAD);
        due.is("near(0, 1) of one", Lands.with("place;").near(0, 1), SlangYears.BAD);
    }

    @Says("BAD (a number is not as told, or there is no such thing)")
    static void withoutPlacesItIsBad(Due due) {
        due.is("near(0, 1)", new SlangYears().near(0, 1), SlangYears.BAD);
    }
}
