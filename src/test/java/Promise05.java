/** Promise 5, law(what). */
final class Promise05 {
    private static final String LAND = "law 1 2 4;start 98;";

    private Promise05() { }

    @Says("0 TAKE, 1 LEARN, 2 DROP, 3 START, 4 LATE.")
    static void whatOf0IsTake(Due due) {
        due.is("law(0)", Lands.with(LAND).law(0), 1);
    }

    @Says("0 TAKE, 1 LEARN, 2 DROP, 3 START, 4 LATE.")
    static void whatOf1IsLearn(Due due) {
        due.is("law(1)", Lands.with(LAND).law(1), 2);
    }

    @Says("0 TAKE, 1 LEARN, 2 DROP, 3 START, 4 LATE.")
    static void whatOf2IsDrop(Due due) {
        due.is("law(2)", Lands.with(LAND).law(2), 4);
    }

    @Says("0 TAKE, 1 LEARN, 2 DROP, 3 START, 4 LATE.")
    static void whatOf3IsStart(Due due) {
        due.is("law(3)", Lands.with(LAND).law(3), 98);
    }

    @Says("0 TAKE, 1 LEARN, 2 DROP, 3 START, 4 LATE.")
    static void whatOf4IsLate(Due due) {
        SlangYears x = Lands.with(LAND);
        x.late(17);
        due.is("law(4)", x.law(4), 17);
    }

    @Says("0 TAKE, 1 LEARN, 2 DROP, 3 START, 4 LATE. BAD.")
    static void whatOf5AndAboveIsBad(Due due) {
        Twins.refused(due, Lands::busy, x -> x.law(5), SlangYears.BAD);
        Twins.refused(due, Lands::busy, x -> x.law(Integer.MAX_VALUE), SlangYears.BAD);
    }

    @Says("0 TAKE, 1 LEARN, 2 DROP, 3 START, 4 LATE. BAD.")
    static void whatBelow0IsBad(Due due) {
        Twins.refused(due, Lands::busy, x -> x.law(-1), SlangYears.BAD);
        Twins.refused(due, Lands::busy, x -> x.law(Integer.MIN_VALUE), SlangYears.BAD);
    }
}
