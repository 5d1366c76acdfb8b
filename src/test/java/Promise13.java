/** Promise 13, song(w, p, g). */
final class Promise13 {
    /** Word 0: 500 of 15 to 17 at place 0; word 1 comes in year 1. */
    private static final String LAND = "place;place;law 0 0 0;start 50;word 1 0 0;word 1 1 0;";

    private Promise13() { }

    private static void bad(Due due, int w, int p, int g) {
        Twins.refused(due, Lands::busy, x -> x.song(w, p, g), SlangYears.BAD);
    }

    @Says("G (1 .. 99 hundredths)")
    static void gOf1IsTheLeast(Due due) {
        SlangYears x = Lands.with(LAND);
        due.is("song(0, 1, 1)", x.song(0, 1, 1), 1);
        due.is("share of 13", x.share(0, 1, 13), 10);
    }

    @Says("G (1 .. 99 hundredths)")
    static void gOf99IsTheMost(Due due) {
        SlangYears x = Lands.with(LAND);
        due.is("song(0, 1, 99)", x.song(0, 1, 99), 1);
        due.is("share of 13", x.share(0, 1, 13), 990);
    }

    @Says("G (1 .. 99 hundredths)")
    static void gOf0AndBelowIsBad(Due due) {
        bad(due, 0, 0, 0);
        bad(due, 0, 0, -1);
        bad(due, 0, 0, Integer.MIN_VALUE);
    }

    @Says("G (1 .. 99 hundredths)")
    static void gOf100AndAboveIsBad(Due due) {
        bad(due, 0, 0, 100);
        bad(due, 0, 0, Integer.MAX_VALUE);
    }

    @Says("WORDS 0 .. (5 at most)")
    static void theFifthWordAndTheThirdPlaceStand(Due due) {
        SlangYears x = Lands.with(Lands.ALL);
        due.is("song(4, 2, 60)", x.song(4, 2, 60), 1);
        due.is("share(4, 2, 13)", x.share(4, 2, 13), 600);
    }

    @Says("BAD (a number is not as told, or there is no such thing)")
    static void aWordThatThereIsNotIsBad(Due due) {
        bad(due, 4, 0, 5);
        bad(due, -1, 0, 5);
        bad(due, Integer.MAX_VALUE, 0, 5);
        bad(due, Integer.MIN_VALUE, 0, 5);
    }

    @Says("BAD (a number is not as told, or there is no such thing)")
    static void aPlaceThatThereIsNotIsBad(Due due) {
        bad(due, 0, 3, 5);
        bad(due, 0, -1, 5);
        bad(due, 0, Integer.MAX_VALUE, 5);
        bad(due, 0, Integer.MIN_VALUE, 5);
        due.is("song(0, 1, 5) of one place", Lands.still().song(0, 1, 5), SlangYears.BAD);
    }

    @Says("no PLACES, no WORDS")
    static void withoutALandItIsBad(Due due) {
        due.is("song(0, 0, 5)", new SlangYears().song(0, 0, 5), SlangYears.BAD);
    }

    @Says("SHARES of AGES 13 to 19 at a PLACE become 10 G at least")
    static void thoseOf13To19HearIt(Due due) {
        SlangYears x = Lands.with(LAND);
        x.song(0, 1, 40);
        due.is("share of 12", x.share(0, 1, 12), 0);
        due.is("share of 13", x.share(0, 1, 13), 400);
        due.is("share of 19", x.share(0, 1, 19), 400);
        due.is("share of 20", x.share(0, 1, 20), 0);
    }

    @Says("become 10 G at least")
    static void whatIsMoreStays(Due due) {
        SlangYears x = Lands.with(LAND);
        x.song(0, 0, 40);
        due.is("share of 14", x.share(0, 0, 14), 400);
        due.is("share of 15, which was 500", x.share(0, 0, 15), 500);
        due.is("a lesser song", x.song(0, 0, 1), 2);
        due.is("share of 14 then", x.share(0, 0, 14), 400);
        x.song(0, 0, 51);
        due.is("share of 15 behind a greater one", x.share(0, 0, 15), 510);
    }

    @Says("A SONG of this YEAR with a WORD at a PLACE")
    static void itIsHeardAtItsPlaceAlone(Due due) {
        SlangYears x = Lands.with(LAND);
        x.song(0, 1, 40);
        due.is("share of 13 at 0", x.share(0, 0, 13), 0);
        due.is("share of 15 at 0", x.share(0, 0, 15), 500);
    }

    @Says("A SONG of this YEAR with a WORD at a PLACE")
    static void itIsOfItsWordAlone(Due due) {
        SlangYears x = Lands.with(LAND);
        x.go(1);
        x.song(1, 0, 60);
        due.is("share of 13 of word 1", x.share(1, 0, 13), 600);
        due.is("share of 13 of word 0", x.share(0, 0, 13), 0);
    }

    @Says("SHARES become so at once")
    static void measuresAndLifeAreSoAtOnce(Due due) {
        SlangYears x = Lands.with(LAND);
        x.song(0, 1, 90);
        due.is("YOUNG", x.has(0, 1, 0), 900);
        due.is("MEAN of YOUNG", x.has(0, -1, 0), 557);
        due.is("PEAK", x.life(0, 0), 557);
    }

    @Says("A SONG of this YEAR")
    static void itIsHeardInItsYearAlone(Due due) {
        SlangYears x = Lands.with(LAND);
        x.song(0, 1, 40);
        x.go(1);
        due.is("share of 13 a year later", x.share(0, 1, 13), 0);
        due.is("share of 14", x.share(0, 1, 14), 400);
        due.is("share of 20", x.share(0, 1, 20), 400);
    }

    @Says("STATE: it is not COINED")
    static void ofAWordThatIsNotCoinedItIsState(Due due) {
        Twins.refused(due, Lands::busy, x -> x.song(3, 0, 5), SlangYears.STATE);
        due.is("song(1, 0, 5) the year ahead", Lands.with(LAND).song(1, 0, 5), SlangYears.STATE);
    }

    @Says("STATE: it is not COINED")
    static void ofAWordThatIsCoinedThisYearItStands(Due due) {
        SlangYears x = Lands.with(LAND);
        x.go(1);
        due.is("song(1, 0, 5)", x.song(1, 0, 5), 1);
        x = Lands.with("place;word 0 90 0;");
        x.go(90);
        due.is("song(0, 0, 5) in year 90", x.song(0, 0, 5), 1);
        x.go(9);
        due.is("song(0, 0, 5) in year 99", x.song(0, 0, 5), 2);
    }

    @Says("how many there are")
    static void songsOfEarlierYearsCountToo(Due due) {
        SlangYears x = Lands.with(LAND);
        due.is("the first", x.song(0, 0, 5), 1);
        x.go(1);
        due.is("the second, of another word", x.song(1, 1, 5), 2);
        x.go(9);
        due.is("the third, of another year", x.song(0, 0, 5), 3);
        due.is("count(3)", x.count(3), 3);
    }

    @Says("FULL: 10.")
    static void tenSongsStand(Due due) {
        SlangYears x = Lands.with(LAND);
        for (int i = 1; i <= 10; i++) {
            due.is("song " + i, x.song(0, 0, 50 + i), i);
        }
        due.is("share of 13", x.share(0, 0, 13), 600);
        due.is("count(3)", x.count(3), 10);
    }

    @Says("FULL: 10.")
    static void anEleventhIsFull(Due due) {
        Twins.refused(due, Lands::busyWithSongs, x -> x.song(0, 0, 99), SlangYears.FULL);
        Twins.refused(due, Lands::busyWithSongs, x -> x.song(2, 2, 99), SlangYears.FULL);
    }

    @Says("BAD (a number is not as told, or there is no such thing), STATE (as told), FULL.")
    static void badIsAheadOfState(Due due) {
        SlangYears x = Lands.with(LAND);
        due.is("G of 0 of a word not COINED", x.song(1, 0, 0), SlangYears.BAD);
        due.is("G of 100 of a word not COINED", x.song(1, 0, 100), SlangYears.BAD);
        due.is("no such place, of a word not COINED", x.song(1, 2, 5), SlangYears.BAD);
    }

    @Says("BAD (a number is not as told, or there is no such thing), STATE (as told), FULL.")
    static void badIsAheadOfFull(Due due) {
        SlangYears x = Lands.busyWithSongs();
        due.is("G of 0", x.song(0, 0, 0), SlangYears.BAD);
        due.is("G of 100", x.song(0, 0, 100), SlangYears.BAD);
        due.is("no such word", x.song(4, 0, 5), SlangYears.BAD);
        due.is("no such place", x.song(0, 3, 5), SlangYears.BAD);
    }

    @Says("BAD (a number is not as told, or there is no such thing), STATE (as told), FULL.")
    static void stateIsAheadOfFull(Due due) {
        due.is("song(3, 0, 5)", Lands.busyWithSongs().song(3, 0, 5), SlangYears.STATE);
    }
}
