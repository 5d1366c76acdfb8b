/** Promise 6, late(v). */
final class Promise06 {
    private Promise06() { }

    @Says("LATE (0 .. 30; 2 at first)")
    static void itIs2AtFirst(Due due) {
        due.is("late(9)", new SlangYears().late(9), 2);
    }

    @Says("LATE (0 .. 30; 2 at first)")
    static void the0IsTheLeast(Due due) {
        SlangYears x = new SlangYears();
        due.is("late(0)", x.late(0), 2);
        due.is("law(4)", x.law(4), 0);
    }

    @Says("LATE (0 .. 30; 2 at first)")
    static void the30IsTheMost(Due due) {
        SlangYears x = new SlangYears();
        due.is("late(30)", x.late(30), 2);
        due.is("law(4)", x.law(4), 30);
    }

    @Says("LATE becomes v: what it was.")
    static void itAnswersWhatItWas(Due due) {
        SlangYears x = new SlangYears();
        x.late(30);
        due.is("late(0)", x.late(0), 30);
        due.is("late(5)", x.late(5), 0);
        due.is("late(5) again", x.late(5), 5);
    }

    @Says("LATE becomes v: what it was. BAD.")
    static void above30IsBad(Due due) {
        Twins.refused(due, Lands::busy, x -> x.late(31), SlangYears.BAD);
        Twins.refused(due, Lands::busy, x -> x.late(Integer.MAX_VALUE), SlangYears.BAD);
    }

    @Says("LATE becomes v: what it was. BAD.")
    static void below0IsBad(Due due) {
        Twins.refused(due, Lands::busy, x -> x.late(-1), SlangYears.BAD);
        Twins.refused(due, Lands::busy, x -> x.late(Integer.MIN_VALUE), SlangYears.BAD);
    }
}
