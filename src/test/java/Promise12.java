/** Promise 12, has(w, p, who). */
final class Promise12 {
    private Promise12() { }

    private static void bad(Due due, int w, int p, int who) {
        Twins.refused(due, Lands::busy, x -> x.has(w, p, who), SlangYears.BAD);
    }

    private static SlangYears stillAfter(int years) {
        SlangYears x = Lands.still();
        x.go(years);
        return x;
    }

    @Says("YOUNG of a WORD at a PLACE: SHARES of AGES 13 to 19 there, added, by 7, rounded down")
    static void youngAreThoseOf13To19(Due due) {
        SlangYears x = Lands.with("place;law 0 0 0;start 1;word 1 0 0;");
        x.song(0, 0, 70);
        due.is("YOUNG of seven of 700", x.has(0, 0, 0), 700);
        x.go(1);
        due.is("YOUNG of six of 700, one is 20", x.has(0, 0, 0), 600);
        x.go(6);
        due.is("YOUNG when all are 20 and above", x.has(0, 0, 0), 0);
    }

    @Says("by 7, rounded down")
    static void youngIsRoundedDown(Due due) {
        due.is("YOUNG: 1500 / 7", Lands.still().has(0, 0, 0), 214);
        due.is("YOUNG: 30 / 7", Lands.with("place;start 1;word 0 0 0;").has(0, 0, 0), 4);
        due.is("YOUNG: 90 / 7, of 12 and 6 sevenths", Lands.with("place;start 3;word 0 0 0;").has(0, 0, 0), 12);
        due.is("YOUNG: 210 / 7", Lands.with("place;start 7;word 0 0 0;").has(0, 0, 0), 30);
    }

    @Says("PARENTS: of AGES 35 to 50, by 16")
    static void parentsAreThoseFrom35On(Due due) {
        due.is("PARENTS of 32 to 34", stillAfter(17).has(0, 0, 1), 0);
        due.is("PARENTS of 33 to 35: 500 / 16", stillAfter(18).has(0, 0, 1), 31);
    }

    @Says("PARENTS: of AGES 35 to 50, by 16")
    static void parentsAreThoseUpTo50(Due due) {
        due.is("PARENTS of 48 to 50: 1500 / 16", stillAfter(33).has(0, 0, 1), 93);
        due.is("PARENTS of 49 to 51: 1000 / 16", stillAfter(34).has(0, 0, 1), 62);
        due.is("PARENTS of 51 to 53", stillAfter(36).has(0, 0, 1), 0);
    }

    @Says("ALL: of all AGES, by 60.")
    static void allAreThoseUpTo69(Due due) {
        due.is("ALL of 15 to 17: 1500 / 60", Lands.still().has(0, 0, 2), 25);
        due.is("ALL of 67 to 69", stillAfter(52).has(0, 0, 2), 25);
        due.is("ALL of 68 and 69: 1000 / 60", stillAfter(53).has(0, 0, 2), 16);
        due.is("ALL of 69: 500 / 60", stillAfter(54).has(0, 0, 2), 8);
    }

    @Says("who have it; 0 at first")
    static void ofAWordThatIsNotCoinedItIs0(Due due) {
        SlangYears x = Lands.with("place;word 0 1 0;");
        for (int who = 0; who <= 2; who++) {
            due.is("has(0, 0, " + who + ")", x.has(0, 0, who), 0);
            due.is("has(0, -1, " + who + ")", x.has(0, -1, who), 0);
        }
    }

    @Says("Of a WORD at a PLACE (-1: MEAN)")
    static void itIsOfThatWordAndPlace(Due due) {
        SlangYears x = Lands.with("place;place;law 0 0 0;start 1;word 0 0 0;word 0 0 1;");
        x.song(0, 1, 30);
        due.is("has(0, 1, 0)", x.has(0, 1, 0), 300);
        due.is("has(0, 0, 0)", x.has(0, 0, 0), 4);
        due.is("has(1, 1, 0)", x.has(1, 1, 0), 4);
        due.is("has(1, 0, 0)", x.has(1, 0, 0), 0);
    }

    @Says("MEAN of a WORD: of all PLACES, YOUNG, PARENTS or ALL added, by how many PLACES, rounded down.")
    static void meanIsByHowManyPlacesThereAre(Due due) {
        due.is("MEAN of one", Lands.still().has(0, -1, 0), 214);
        SlangYears x = Lands.with("place;place;place;law 0 0 0;start 50;word 1 0 2;");
        due.is("MEAN of YOUNG: 214 / 3", x.has(0, -1, 0), 71);
        due.is("MEAN of ALL: 25 / 3", x.has(0, -1, 2), 8);
        x.go(33);
        due.is("MEAN of PARENTS: 93 / 3", x.has(0, -1, 1), 31);
    }

    @Says("MEAN of a WORD: of all PLACES, YOUNG, PARENTS or ALL added, by how many PLACES, rounded down.")
    static void whatIsAddedIsRoundedDownAlready(Due due) {
        SlangYears x = Lands.with("place;place;law 0 0 0;start 1;word 1 0 0;");
        x.song(0, 0, 5);
        x.song(0, 1, 11);
        due.is("ALL at 0: 350 / 60", x.has(0, 0, 2), 5);
        due.is("ALL at 1: 770 / 60", x.has(0, 1, 2), 12);
        due.is("MEAN of ALL: 17 / 2", x.has(0, -1, 2), 8);
    }

    @Says("YOUNG (who = 0), PARENTS (1), ALL (2)")
    static void whoOf3AndAboveIsBad(Due due) {
        bad(due, 0, 0, 3);
        bad(due, 0, -1, 3);
        bad(due, 0, 0, Integer.MAX_VALUE);
    }

    @Says("YOUNG (who = 0), PARENTS (1), ALL (2)")
    static void whoBelow0IsBad(Due due) {
        bad(due, 0, 0, -1);
        bad(due, 0, -1, -1);
        bad(due, 0, 0, Integer.MIN_VALUE);
    }

    @Says("Of a WORD at a PLACE (-1: MEAN)")
    static void aPlaceBelowMinus1IsBad(Due due) {
        bad(due, 0, -2, 0);
        bad(due, 0, Integer.MIN_VALUE, 0);
    }

    @Says("WORDS 0 .. (5 at most)")
    static void theFifthWordAndTheThirdPlaceStand(Due due) {
        SlangYears x = Lands.with(Lands.ALL);
        due.is("has(4, 2, 0): 1200 / 7", x.has(4, 2, 0), 171);
        due.is("has(4, -1, 0): 171 / 3", x.has(4, -1, 0), 57);
    }

    @Says("BAD (a number is not as told, or there is no such thing)")
    static void aPlaceBehindTheLastIsBad(Due due) {
        bad(due, 0, 3, 0);
        bad(due, 0, Integer.MAX_VALUE, 0);
        due.is("has(0, 1, 0) of one place", Lands.still().has(0, 1, 0), SlangYears.BAD);
    }

    @Says("BAD (a number is not as told, or there is no such thing)")
    static void aWordThatThereIsNotIsBad(Due due) {
        bad(due, 4, 0, 0);
        bad(due, -1, 0, 0);
        bad(due, 4, -1, 0);
        bad(due, Integer.MAX_VALUE, -1, 0);
        bad(due, Integer.MIN_VALUE, 0, 0);
    }

    @Says("BAD (no PLACES, too).")
    static void withoutPlacesItIsBad(Due due) {
        SlangYears x = new SlangYears();
        due.is("has(0, -1, 0)", x.has(0, -1, 0), SlangYears.BAD);
        due.is("has(0, 0, 0)", x.has(0, 0, 0), SlangYears.BAD);
    }
}
