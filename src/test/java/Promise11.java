/** Promise 11, share(w, p, age). */
final class Promise11 {
    private Promise11() { }

    private static void bad(Due due, int w, int p, int age) {
        Twins.refused(due, Lands::busy, x -> x.share(w, p, age), SlangYears.BAD);
    }

    @Says("thousandths of people who have it; 0 at first")
    static void itIs0AtFirst(Due due) {
        SlangYears x = Lands.with("place;place;word 0 0 0;word 0 1 0;");
        due.is("share(0, 0, 14)", x.share(0, 0, 14), 0);
        due.is("share(0, 1, 16)", x.share(0, 1, 16), 0);
        due.is("share(1, 0, 16), not COINED", x.share(1, 0, 16), 0);
    }

    @Says("SHARE of a WORD, a PLACE, an AGE (10 .. 69)")
    static void itIsOfThatWordAndPlaceAndAge(Due due) {
        SlangYears x = Lands.with("place;place;law 0 0 0;start 1;word 0 0 0;word 0 0 1;");
        x.song(0, 1, 30);
        x.song(1, 0, 40);
        x.go(1);
        due.is("share(0, 1, 14)", x.share(0, 1, 14), 300);
        due.is("share(1, 0, 14)", x.share(1, 0, 14), 400);
        due.is("share(0, 0, 14)", x.share(0, 0, 14), 0);
        due.is("share(1, 1, 14)", x.share(1, 1, 14), 0);
        due.is("share(0, 1, 13)", x.share(0, 1, 13), 0);
        due.is("share(0, 1, 20)", x.share(0, 1, 20), 300);
        due.is("share(0, 1, 21)", x.share(0, 1, 21), 0);
    }

    @Says("an AGE (10 .. 69)")
    static void age10IsTheLeast(Due due) {
        due.is("share(0, 0, 10)", Lands.still().share(0, 0, 10), 0);
    }

    @Says("an AGE (10 .. 69)")
    static void age69IsTheMost(Due due) {
        SlangYears x = Lands.still();
        x.go(52);
        due.is("share(0, 0, 69)", x.share(0, 0, 69), 500);
    }

    @Says("an AGE (10 .. 69)")
    static void ageOf9AndBelowIsBad(Due due) {
        bad(due, 0, 0, 9);
        bad(due, 0, 0, -1);
        bad(due, 0, 0, Integer.MIN_VALUE);
    }

    @Says("an AGE (10 .. 69)")
    static void ageOf70AndAboveIsBad(Due due) {
        bad(due, 0, 0, 70);
        bad(due, 0, 0, Integer.MAX_VALUE);
    }

    @Says("WORDS 0 .. (5 at most)")
    static void theFifthWordAndTheThirdPlaceStand(Due due) {
        SlangYears x = Lands.with(Lands.ALL);
        due.is("share(4, 2, 15)", x.share(4, 2, 15), 400);
        due.is("share(4, 1, 15)", x.share(4, 1, 15), 0);
        due.is("share(3, 2, 15)", x.share(3, 2, 15), 0);
    }

    @Says("BAD (a number is not as told, or there is no such thing)")
    static void aWordThatThereIsNotIsBad(Due due) {
        bad(due, 4, 0, 15);
        bad(due, -1, 0, 15);
        bad(due, Integer.MAX_VALUE, 0, 15);
        bad(due, Integer.MIN_VALUE, 0, 15);
    }

    @Says("BAD (a number is not as told, or there is no such thing)")
    static void aPlaceThatThereIsNotIsBad(Due due) {
        bad(due, 0, 3, 15);
        bad(due, 0, -1, 15);
        bad(due, 0, Integer.MAX_VALUE, 15);
        bad(due, 0, Integer.MIN_VALUE, 15);
        due.is("share(0, 1, 15) of one place", Lands.still().share(0, 1, 15), SlangYears.BAD);
    }

    @Says("no PLACES, no WORDS")
    static void withoutALandItIsBad(Due due) {
        due.is("share(0, 0, 15)", new SlangYears().share(0, 0, 15), SlangYears.BAD);
        due.is("share(0, 0, 15) without words", Lands.with("place;").share(0, 0, 15), SlangYears.BAD);
    }
}
