/** Promise 32, trace(). */
final class Promise32 {
    private static final String EACH = "as often as rate() asks that body: each once";

    private Promise32() { }

    private static void traced(Due due, int kind, int added) {
        SlangYears x = Lands.still();
        x.rate(kind, 0);
        due.is("trace() behind kind " + kind, x.trace(), added);
        x.rate(kind, 0);
        due.is("trace() behind kind " + kind + " twice", x.trace(), 2 * added);
    }

    @Says("are added to THE TRACE, 0 at first")
    static void itIs0AtFirst(Due due) {
        due.is("trace()", new SlangYears().trace(), 0);
        due.is("trace() of a land", Lands.still().trace(), 0);
    }

    @Says(EACH)
    static void kind0AsksWord(Due due) {
        traced(due, 0, 1);
    }

    @Says(EACH)
    static void kind1AsksNewAndWord(Due due) {
        traced(due, 1, 11);
    }

    @Says(EACH)
    static void kind2AsksHadAndWord(Due due) {
        traced(due, 2, 101);
    }

    @Says(EACH)
    static void kind3AsksOverAndHadAndWord(Due due) {
        traced(due, 3, 1101);
    }

    @Says(EACH)
    static void kind4AsksKeptAndEachAboveOnce(Due due) {
        traced(due, 4, 11101);
    }

    @Says(EACH)
    static void kind5AsksStayedAndWord(Due due) {
        traced(due, 5, 100001);
    }

    @Says("(numbers in brackets are added to THE TRACE")
    static void allAreAdded(Due due) {
        SlangYears x = Lands.with("place;word 0 0 0;word 0 9 0;");
        for (int kind = 0; kind <= 5; kind++) {
            x.rate(kind, kind % 2);
        }
        due.is("trace()", x.trace(), 1 + 11 + 101 + 1101 + 11101 + 100001);
    }

    @Says("Refused, and nothing changes")
    static void aRefusedRateAddsNothing(Due due) {
        SlangYears x = Lands.still();
        x.rate(4, 0);
        x.rate(6, 0);
        x.rate(-1, 0);
        x.rate(0, 1);
        x.rate(4, -1);
        due.is("trace()", x.trace(), 11101);
    }

    @Says("(numbers in brackets are added to THE TRACE")
    static void nothingElseAddsToIt(Due due) {
        SlangYears x = Lands.still();
        x.has(0, -1, 0);
        x.life(0, 0);
        x.kills(0);
        x.part(0);
        x.wants(1);
        x.drawn(15, 0);
        x.go(3);
        due.is("trace()", x.trace(), 0);
    }

    @Says("THE TRACE goes on, as behind back()")
    static void behindBackItGoesOn(Due due) {
        SlangYears x = Lands.still();
        x.rate(5, 0);
        x.keep(0);
        x.rate(0, 0);
        x.back(0);
        due.is("trace()", x.trace(), 100002);
        x.rate(0, 0);
        due.is("trace() behind a rate more", x.trace(), 100003);
    }

    @Says("THE TRACE goes on, as behind back()")
    static void behindALandReadAnewItGoesOn(Due due) {
        SlangYears x = Lands.still();
        x.rate(5, 0);
        Lands.type(x, Lands.STILL);
        x.land();
        due.is("trace()", x.trace(), 100001);
        x.rate(0, 0);
        due.is("trace() behind a rate more", x.trace(), 100002);
    }

    @Says("THE LAND begins anew")
    static void behindAnewItGoesOn(Due due) {
        SlangYears x = Lands.still();
        x.rate(5, 0);
        x.anew();
        due.is("trace()", x.trace(), 100001);
    }
}
