/** Promise 31, count(what). */
final class Promise31 {
    private static final String WHAT = "0 PLACES, 1 WORDS, 2 the YEAR, 3 SONGS, 4 WRITINGS, 5 bytes of THE TEXT.";

    private Promise31() { }

    private static SlangYears land() {
        SlangYears x = Lands.with("place;place;word 3 0 0;");
        x.go(4);
        for (int i = 0; i < 5; i++) {
            x.song(0, 0, 5);
        }
        for (int i = 0; i < 6; i++) {
            x.writing(5, 20, 0);
        }
        x.type(59, 7);
        return x;
    }

    @Says(WHAT)
    static void whatOf0IsThePlaces(Due due) {
        due.is("count(0)", land().count(0), 2);
        due.is("count(0) of none", new SlangYears().count(0), 0);
    }

    @Says(WHAT)
    static void whatOf1IsTheWords(Due due) {
        due.is("count(1)", land().count(1), 1);
        due.is("count(1) of none", Lands.with("place;").count(1), 0);
    }

    @Says(WHAT)
    static void whatOf2IsTheYear(Due due) {
        due.is("count(2)", land().count(2), 4);
        due.is("count(2) of the last", Lands.busyInYear99().count(2), 99);
    }

    @Says(WHAT)
    static void whatOf3IsTheSongs(Due due) {
        due.is("count(3)", land().count(3), 5);
        due.is("count(3) of ten", Lands.busyWithSongs().count(3), 10);
    }

    @Says(WHAT)
    static void whatOf4IsTheWritings(Due due) {
        due.is("count(4)", land().count(4), 6);
        due.is("count(4) of forty", Lands.busyWithWritings().count(4), 40);
    }

    @Says(WHAT)
    static void whatOf5IsTheBytesOfTheText(Due due) {
        due.is("count(5)", land().count(5), 7);
        due.is("count(5) of 300", Lands.busyWithBytes(300).count(5), 300);
    }

    @Says("5 bytes of THE TEXT. BAD.")
    static void whatOf6AndAboveIsBad(Due due) {
        Twins.refused(due, Lands::busy, x -> x.count(6), SlangYears.BAD);
        Twins.refused(due, Lands::busy, x -> x.count(Integer.MAX_VALUE), SlangYears.BAD);
    }

    @Says("5 bytes of THE TEXT. BAD.")
    static void whatBelow0IsBad(Due due) {
        Twins.refused(due, Lands::busy, x -> x.count(-1), SlangYears.BAD);
        Twins.refused(due, Lands::busy, x -> x.count(Integer.MIN_VALUE), SlangYears.BAD);
    }
}
