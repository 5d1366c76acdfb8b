/** Promise 9, go(n): how many years go by, and what one that goes by does. */
final class Promise09 {
    /** In year 0: YOUNG at place 0 is 900 / 7 = 128; place 1 is near, place 2 is not. */
    private static final String TAKING = "place;place;place;near 0 1 5;law 6 0 0;start 30;word 0 0 0;";

    /** In year 0: YOUNG is 2100 / 7 = 300, and so it is up to year 2; then 200, 100, 0. */
    private static final String LEARNING = "place;law 0 9 0;start 70;word 0 0 0;";

    private Promise09() { }

    private static SlangYears after(int years, String land) {
        SlangYears x = Lands.with(land);
        x.go(years);
        return x;
    }

    // ---- how many years

    @Says("n YEARS go by (1 .. 99; as many as are left): how many did.")
    static void nOf1IsTheLeast(Due due) {
        SlangYears x = Lands.still();
        due.is("go(1)", x.go(1), 1);
        due.is("count(2)", x.count(2), 1);
    }

    @Says("n YEARS go by (1 .. 99; as many as are left): how many did.")
    static void nOf99IsTheMost(Due due) {
        SlangYears x = Lands.still();
        due.is("go(99)", x.go(99), 99);
        due.is("count(2)", x.count(2), 99);
    }

    @Says("n YEARS go by (1 .. 99; as many as are left)")
    static void nOf0IsBad(Due due) {
        Twins.refused(due, Lands::busy, x -> x.go(0), SlangYears.BAD);
    }

    @Says("n YEARS go by (1 .. 99; as many as are left)")
    static void nBelow0IsBad(Due due) {
        Twins.refused(due, Lands::busy, x -> x.go(-1), SlangYears.BAD);
        Twins.refused(due, Lands::busy, x -> x.go(Integer.MIN_VALUE), SlangYears.BAD);
    }

    @Says("n YEARS go by (1 .. 99; as many as are left)")
    static void nOf100AndAboveIsBad(Due due) {
        Twins.refused(due, Lands::busy, x -> x.go(100), SlangYears.BAD);
        Twins.refused(due, Lands::busy, x -> x.go(Integer.MAX_VALUE), SlangYears.BAD);
    }

    @Says("as many as are left")
    static void asManyGoByAsAreLeft(Due due) {
        SlangYears x = after(97, Lands.STILL);
        due.is("go(3) in year 97", x.go(3), 2);
        due.is("count(2)", x.count(2), 99);
        x = after(1, Lands.STILL);
        due.is("go(99) in year 1", x.go(99), 98);
    }

    @Says("as many as are left")
    static void inYear98OneIsLeft(Due due) {
        SlangYears x = after(98, Lands.STILL);
        due.is("go(99)", x.go(99), 1);
        due.is("count(2)", x.count(2), 99);
    }

    @Says("STATE: it is YEAR 99.")
    static void inYear99ItIsState(Due due) {
        Twins.refused(due, Lands::busyInYear99, x -> x.go(1), SlangYears.STATE);
        Twins.refused(due, Lands::busyInYear99, x -> x.go(99), SlangYears.STATE);
    }

    @Says("Refused, and nothing changes, the first of these: BAD")
    static void badIsAheadOfState(Due due) {
        SlangYears x = Lands.busyInYear99();
        due.is("go(0)", x.go(0), SlangYears.BAD);
        due.is("go(100)", x.go(100), SlangYears.BAD);
        due.is("go(-1)", x.go(-1), SlangYears.BAD);
    }

    @Says("n YEARS go by")
    static void yearsGoByWithoutALandToo(Due due) {
        SlangYears x = new SlangYears();
        due.is("go(98)", x.go(98), 98);
        due.is("go(2)", x.go(2), 1);
        due.is("go(1)", x.go(1), SlangYears.STATE);
    }

    @Says("n YEARS go by")
    static void severalYearsAreAsOneByOne(Due due) {
        SlangYears x = Lands.with(Lands.BUSY);
        for (int i = 0; i < 6; i++) {
            x.go(1);
        }
        Twins.alike(due, "", x, after(6, Lands.BUSY));
    }

    // ---- everybody is a year older

    @Says("SHARE of an AGE is that of the AGE one less (0 at 10)")
    static void everybodyIsAYearOlder(Due due) {
        SlangYears x = after(1, Lands.STILL);
        due.is("share of 15", x.share(0, 0, 15), 0);
        due.is("share of 16", x.share(0, 0, 16), 500);
        due.is("share of 18", x.share(0, 0, 18), 500);
        due.is("share of 19", x.share(0, 0, 19), 0);
    }

    @Says("SHARE of an AGE is that of the AGE one less (0 at 10)")
    static void at10ItIs0(Due due) {
        SlangYears x = after(3, "place;law 9 9 9;start 99;word 0 0 0;");
        due.is("share of 10", x.share(0, 0, 10), 0);
        due.is("share of 11", x.share(0, 0, 11), 0);
    }

    @Says("AGE (10 .. 69)")
    static void thoseOf69Leave(Due due) {
        SlangYears x = after(54, Lands.STILL);
        due.is("share of 69", x.share(0, 0, 69), 500);
        due.is("ALL", x.has(0, 0, 2), 8);
        x.go(1);
        due.is("share of 69 a year later", x.share(0, 0, 69), 0);
        due.is("ALL a year later", x.has(0, 0, 2), 0);
    }

    // ---- the young take it up

    @Says("at AGES 13 to 19 it is more by TAKE times HEARD times (1000 less SHARE) times (1000 less PARENTS) by "
        + "10 000 000, rounded down")
    static void itIsTakenUpFrom13To19(Due due) {
        SlangYears x = after(1, TAKING);
        due.is("share of 12", x.share(0, 0, 12), 0);
        due.is("share of 13: 6 * 128 / 10", x.share(0, 0, 13), 76);
        due.is("share of 19: 6 * 128 / 10", x.share(0, 0, 19), 76);
        due.is("share of 20", x.share(0, 0, 20), 0);
    }

    @Says("times (1000 less SHARE)")
    static void thoseWhoHaveItTakeUpLess(Due due) {
        SlangYears x = after(1, TAKING);
        due.is("share of 16: 300 and 6 * 128 * 700 * 1000 / 10 000 000", x.share(0, 0, 16), 353);
        due.is("share of 18", x.share(0, 0, 18), 353);
    }

    @Says("by 10 000 000, rounded down")
    static void whatIsTakenUpIsRoundedDown(Due due) {
        SlangYears x = after(1, "place;law 1 0 0;start 46;word 0 0 0;");
        due.is("share of 13: 197 / 10", x.share(0, 0, 13), 19);
        due.is("share of 16: 460 and 197 * 540 / 10 000", x.share(0, 0, 16), 470);
    }

    @Says("by 10 000 000, rounded down")
    static void whatIsTakenUpIsRoundedDownCloseBelowAWhole(Due due) {
        SlangYears x = after(4, "place;law 6 1 1;start 67;word 0 0 0;");
        due.is("YOUNG", x.has(0, 0, 0), 665);
        due.is("PARENTS", x.has(0, 0, 1), 65);
        due.is("share of 13", x.share(0, 0, 13), 354);
        x.go(1);
        due.is("share of 14: 354 and 2 409 999 900 / 10 000 000, less 1 * 65 * 594 / 10 000",
            x.share(0, 0, 14), 354 + 240 - 3);
    }

    @Says("times (1000 less SHARE)")
    static void aShareOf999CannotGrow(Due due) {
        SlangYears x = Lands.with("place;law 9 0 0;start 99;word 0 0 0;");
        x.song(0, 0, 99);
        x.go(1);
        due.is("share of 16: 990 and 9 * 990 * 10 / 10 000", x.share(0, 0, 16), 998);
        x.go(1);
        due.is("share of 17: 998 and 9 * 982 * 2 / 10 000", x.share(0, 0, 17), 999);
        x.go(1);
        due.is("share of 18: 999 and 9 * 980 * 1 / 10 000", x.share(0, 0, 18), 999);
    }

    @Says("HEARD at a PLACE: YOUNG there, and of each other PLACE NEAR times YOUNG there by 10")
    static void whatIsNearIsHeardByTenths(Due due) {
        SlangYears x = after(1, TAKING);
        due.is("share of 13 near by: 6 * 64 / 10", x.share(0, 1, 13), 38);
        due.is("share of 19 near by", x.share(0, 1, 19), 38);
        due.is("share of 20 near by", x.share(0, 1, 20), 0);
    }

    @Says("HEARD at a PLACE: YOUNG there, and of each other PLACE NEAR times YOUNG there by 10")
    static void whatIsNotNearIsNotHeard(Due due) {
        due.is("share of 15 far away", after(1, TAKING).share(0, 2, 15), 0);
    }

    @Says("of each other PLACE NEAR times YOUNG there by 10, rounded down, added")
    static void eachPlaceNearIsRoundedDownByItself(Due due) {
        SlangYears x = Lands.with("place;place;place;near 0 1 1;near 0 2 4;law 9 0 0;start 5;word 0 0 1;");
        x.song(0, 2, 1);
        x.go(1);
        due.is("YOUNG at 0", x.has(0, 0, 0), 5);
        due.is("YOUNG at 1, a tenth of which is 3.9", x.has(0, 1, 0), 39);
        due.is("YOUNG at 2, four tenths of which are 6.4", x.has(0, 2, 0), 16);
        x.go(1);
        due.is("share of 13: 9 * (5 + 3 + 6) / 10", x.share(0, 0, 13), 12);
    }

    @Says("added, 1000 at most")
    static void heardIs1000AtMost(Due due) {
        SlangYears x = Lands.with("place;place;place;near 0 1 9;near 0 2 9;law 9 0 0;start 1;word 0 0 0;");
        x.song(0, 0, 50);
        x.song(0, 1, 70);
        x.song(0, 2, 70);
        x.go(1);
        due.is("share of 13 of 500 and 630 and 630: 9 * 1000 / 10", x.share(0, 0, 13), 900);
        due.is("share of 19: 500 and 9 * 1000 * 500 * 1000 / 10 000 000", x.share(0, 0, 19), 950);
        due.is("share of 13 at place 1, of 700 and 450", x.share(0, 1, 13), 900);
    }

    @Says("added, 1000 at most")
    static void heardOf1000AndBelowIsAsItIs(Due due) {
        SlangYears x = Lands.with("place;place;near 0 1 5;law 9 0 0;start 1;word 0 0 0;");
        x.song(0, 0, 60);
        x.song(0, 1, 80);
        x.go(1);
        due.is("share of 13 of 600 and 400", x.share(0, 0, 13), 900);
        x = Lands.with("place;place;near 0 1 5;law 9 0 0;start 1;word 0 0 0;");
        x.song(0, 0, 60);
        x.song(0, 1, 78);
        x.go(1);
        due.is("share of 13 of 600 and 390", x.share(0, 0, 13), 891);
    }

    @Says("times (1000 less PARENTS)")
    static void whatParentsHaveIsTakenUpLess(Due due) {
        SlangYears x = after(3, "place;law 1 9 0;start 99;word 0 0 0;");
        due.is("PARENTS: 9 * 424 / 10", x.has(0, 0, 1), 381);
        long young = x.has(0, 0, 0);
        x.go(1);
        due.is("share of 13", x.share(0, 0, 13), young * 1000 * (1000 - 381) / 10000000);
    }

    // ---- they drop it

    @Says("then at AGES 10 to 19 less by DROP times PARENTS times SHARE by 10 000, rounded down")
    static void whatParentsHaveIsDroppedUpTo19(Due due) {
        SlangYears x = after(3, "place;law 0 9 5;start 70;word 0 0 0;");
        due.is("share of 19 that nobody had to drop", x.share(0, 0, 19), 700);
        due.is("PARENTS", x.has(0, 0, 1), 270);
        x.go(1);
        due.is("share of 19: 700 less 94 of 94.5", x.share(0, 0, 19), 606);
        due.is("share of 20", x.share(0, 0, 20), 700);
    }

    @Says("less by DROP times PARENTS times SHARE by 10 000, rounded down")
    static void whatIsDroppedIsWholeWhereItIsWhole(Due due) {
        SlangYears x = Lands.with("place;law 0 8 5;start 1;word 0 0 0;");
        x.song(0, 0, 25);
        x.go(3);
        due.is("PARENTS: 8 * 250 / 10", x.has(0, 0, 1), 200);
        x.go(1);
        due.is("share of 19: 250 less 5 * 200 * 250 / 10 000", x.share(0, 0, 19), 225);
    }

    @Says("less by DROP times PARENTS times SHARE by 10 000, rounded down")
    static void whatIsDroppedIsRoundedDown(Due due) {
        SlangYears x = after(20, "place;law 0 0 5;start 54;word 0 0 0;");
        x.song(0, 0, 99);
        due.is("PARENTS", x.has(0, 0, 1), 101);
        x.go(1);
        due.is("share of 19: 990 less 49 of 49.995", x.share(0, 0, 19), 941);
    }

    @Says("then at AGES 10 to 19 less by DROP times PARENTS times SHARE by 10 000, rounded down")
    static void theYoungestDropItToo(Due due) {
        SlangYears x = after(3, "place;law 0 9 5;start 70;word 0 0 0;");
        x.song(0, 0, 70);
        x.go(1);
        due.is("share of 14, who were 13: 700 less 94 of 94.5", x.share(0, 0, 14), 606);
        due.is("share of 13, who were 12", x.share(0, 0, 13), 0);
    }

    @Says("rounded down; then at AGES 10 to 19 less by DROP times PARENTS times SHARE by 10 000")
    static void whatWasJustTakenUpIsDroppedToo(Due due) {
        SlangYears x = after(3, "place;law 9 9 9;start 99;word 0 0 0;");
        long young = x.has(0, 0, 0);
        due.is("PARENTS: 9 * 424 / 10", x.has(0, 0, 1), 381);
        x.go(1);
        long taken = 9 * young * 1000 * (1000 - 381) / 10000000;
        due.is("share of 13", x.share(0, 0, 13), taken - 9 * 381 * taken / 10000);
    }

    // ---- parents learn it

    @Says("at AGES 35 to 50 it is more by LEARN times YOUNG two YEARS ahead (0, if there was none)")
    static void inYears1And2NobodyHasLearnt(Due due) {
        SlangYears x = after(1, LEARNING);
        due.is("share of 35 in year 1", x.share(0, 0, 35), 0);
        x.go(1);
        due.is("share of 35 in year 2", x.share(0, 0, 35), 0);
        due.is("PARENTS in year 2", x.has(0, 0, 1), 0);
    }

    @Says("at AGES 35 to 50 it is more by LEARN times YOUNG two YEARS ahead (0, if there was none)")
    static void itIsLearntFrom35To50(Due due) {
        SlangYears x = after(3, LEARNING);
        due.is("share of 34", x.share(0, 0, 34), 0);
        due.is("share of 35: 9 * 300 / 10", x.share(0, 0, 35), 270);
        due.is("share of 50", x.share(0, 0, 50), 270);
        due.is("share of 51", x.share(0, 0, 51), 0);
    }

    @Says("YOUNG two YEARS ahead, as YEAR y goes by: that at the begin of YEAR y less 2.")
    static void itIsLearntFromTheYoungOfTwoYearsAhead(Due due) {
        SlangYears x = after(5, LEARNING);
        due.is("share of 35 in year 5, of year 2's 300", x.share(0, 0, 35), 270);
        x.go(1);
        due.is("share of 35 in year 6, of year 3's 200", x.share(0, 0, 35), 180);
        x.go(1);
        due.is("share of 35 in year 7, of year 4's 100", x.share(0, 0, 35), 90);
        x.go(1);
        due.is("share of 35 in year 8, of year 5's 0", x.share(0, 0, 35), 0);
    }

    @Says("by LEARN times YOUNG two YEARS ahead")
    static void itIsNotLearntFromThoseNearBy(Due due) {
        SlangYears x = after(9, "place;place;near 0 1 9;law 0 9 0;start 70;word 0 0 0;");
        due.is("PARENTS at 0", x.has(0, 0, 1) > 0 ? 1 : 0, 1);
        due.is("PARENTS at 1", x.has(0, 1, 1), 0);
        due.is("share of 40 at 1", x.share(0, 1, 40), 0);
    }

    @Says("WORDS that are COINED in it, its SONGS are in it.")
    static void aSongIsInTheYoungOfTwoYearsAhead(Due due) {
        SlangYears x = Lands.with("place;law 0 9 0;start 1;word 1 0 0;");
        x.song(0, 0, 50);
        x.go(3);
        due.is("share of 40: 9 * 500 / 10", x.share(0, 0, 40), 450);
    }

    @Says("WORDS that are COINED in it, its SONGS are in it.")
    static void aWordCoinedLaterIsLearntThreeYearsOn(Due due) {
        SlangYears x = after(7, "place;law 0 9 0;start 70;word 0 5 0;");
        due.is("share of 35 in year 7", x.share(0, 0, 35), 0);
        x.go(1);
        due.is("share of 35 in year 8, of year 5's 300", x.share(0, 0, 35), 270);
    }

    @Says("times (1000 less SHARE) by 10 000, rounded down")
    static void thoseWhoHaveLearntLearnLess(Due due) {
        SlangYears x = after(4, LEARNING);
        due.is("share of 35", x.share(0, 0, 35), 270);
        due.is("share of 36: 270 and 197 of 197.1", x.share(0, 0, 36), 467);
        due.is("share of 51, who learnt at 50", x.share(0, 0, 51), 270);
    }

    @Says("times (1000 less SHARE) by 10 000, rounded down")
    static void whatIsLearntIsRoundedDown(Due due) {
        SlangYears x = after(3, "place;law 0 9 0;start 99;word 0 0 0;");
        due.is("share of 35: 381 of 381.6", x.share(0, 0, 35), 381);
        x = Lands.with("place;law 0 1 0;start 1;word 0 0 0;");
        x.song(0, 0, 11);
        x.go(1);
        x.song(0, 0, 91);
        x.go(2);
        due.is("share of 36: 110 / 10", x.share(0, 0, 36), 11);
        x.go(1);
        due.is("share of 36: 11 and 89 of 89.999", x.share(0, 0, 36), 100);
    }

    // ---- plain ones

    @Says("(a PLAIN one: as if PARENTS were 0 in both)")
    static void aPlainOneIsTakenUpInSpiteOfParents(Due due) {
        SlangYears x = after(3, "place;law 1 9 0;start 99;word 0 0 0 plain;");
        due.is("PARENTS", x.has(0, 0, 1), 381);
        int young = x.has(0, 0, 0);
        x.go(1);
        due.is("share of 13", x.share(0, 0, 13), young / 10);
    }

    @Says("(a PLAIN one: as if PARENTS were 0 in both)")
    static void aPlainOneIsTakenUpAsIfThereWereNone(Due due) {
        SlangYears x = after(3, "place;law 1 9 0;start 1;word 0 0 0 plain;");
        x.song(0, 0, 50);
        x.go(1);
        due.is("share of 13: 1 * 500 / 10", x.share(0, 0, 13), 50);
        x = Lands.with("place;law 9 0 0;start 15;word 0 0 0 plain;");
        x.song(0, 0, 10);
        due.is("YOUNG: 850 / 7", x.has(0, 0, 0), 121);
        x.go(1);
        due.is("share of 13: 108 of 108.9", x.share(0, 0, 13), 108);
    }

    @Says("(a PLAIN one: as if PARENTS were 0 in both)")
    static void aPlainOneIsNotDropped(Due due) {
        SlangYears x = after(4, "place;law 0 9 9;start 70;word 0 0 0 plain;");
        due.is("PARENTS", x.has(0, 0, 1) > 0 ? 1 : 0, 1);
        due.is("share of 19", x.share(0, 0, 19), 700);
    }

    @Says("(a PLAIN one: as if PARENTS were 0 in both)")
    static void aPlainOneIsLearntAllTheSame(Due due) {
        due.is("share of 35", after(3, "place;law 0 9 9;start 70;word 0 0 0 plain;").share(0, 0, 35), 270);
    }

    // ---- by what was at its begin

    @Says("(each WORD that was COINED by itself, by what was at its begin)")
    static void whatIsHeardIsOfTheBeginOfTheYear(Due due) {
        SlangYears x = after(1, "place;place;near 0 1 5;law 9 0 0;start 30;word 0 0 0;");
        due.is("share of 13 at 1: 9 * 64 / 10", x.share(0, 1, 13), 57);
        x = after(1, "place;place;near 0 1 5;law 9 0 0;start 30;word 0 0 1;");
        due.is("share of 13 at 0: 9 * 64 / 10", x.share(0, 0, 13), 57);
    }

    @Says("(each WORD that was COINED by itself, by what was at its begin)")
    static void parentsAreThoseOfTheBeginOfTheYear(Due due) {
        SlangYears x = after(18, "place;law 0 0 9;start 50;word 1 0 0;");
        x.song(0, 0, 80);
        due.is("PARENTS of 35 alone", x.has(0, 0, 1), 31);
        x.go(1);
        due.is("PARENTS of 35 and 36 a year later", x.has(0, 0, 1), 62);
        due.is("share of 19: 800 less 9 * 31 * 800 / 10 000", x.share(0, 0, 19), 778);
    }

    @Says("(each WORD that was COINED by itself, by what was at its begin)")
    static void aSongOfTheYearIsHeardAsItGoesBy(Due due) {
        SlangYears x = Lands.with("place;place;near 0 1 5;law 6 0 0;start 1;word 1 0 0;");
        x.song(0, 0, 50);
        x.go(1);
        due.is("share of 13: 6 * 500 / 10", x.share(0, 0, 13), 300);
        due.is("share of 13 near by: 6 * 250 / 10", x.share(0, 1, 13), 150);
    }

    @Says("(each WORD that was COINED by itself, by what was at its begin)")
    static void oneWordDoesNotTouchAnother(Due due) {
        SlangYears x = Lands.with("place;law 7 6 5;start 30;word 0 0 0;word 0 0 0;");
        SlangYears alone = Lands.with("place;law 7 6 5;start 30;word 0 0 0;");
        x.song(1, 0, 99);
        x.go(6);
        alone.go(6);
        for (int age = 10; age <= 69; age++) {
            due.is("share of " + age, x.share(0, 0, age), alone.share(0, 0, age));
        }
    }

    @Says("(each WORD that was COINED by itself, by what was at its begin)")
    static void eachOfFiveWordsHasItsYears(Due due) {
        SlangYears x = after(2, "place;law 9 0 0;start 70;word 0 0 0;word 0 1 0;word 0 2 0;word 0 3 0;word 0 0 0;");
        due.is("share of 18 of word 0", x.share(0, 0, 18), x.share(4, 0, 18));
        due.is("share of 13 of word 1: 9 * 300 / 10", x.share(1, 0, 13), 270);
        due.is("share of 13 of word 2", x.share(2, 0, 13), 0);
        due.is("share of 16 of word 2", x.share(2, 0, 16), 700);
        due.is("share of 16 of word 3", x.share(3, 0, 16), 0);
        due.is("word 4 went by", x.share(4, 0, 13) > 270 ? 1 : 0, 1);
    }

    // ---- coined

    @Says("SHARES of AGES 15 to 17 at its PLACE become 10 START at least")
    static void itIsCoinedAt15To17(Due due) {
        SlangYears x = after(2, "place;place;law 9 9 9;start 33;word 0 2 1;");
        due.is("share of 14", x.share(0, 1, 14), 0);
        due.is("share of 15", x.share(0, 1, 15), 330);
        due.is("share of 17", x.share(0, 1, 17), 330);
        due.is("share of 18", x.share(0, 1, 18), 0);
    }

    @Says("SHARES of AGES 15 to 17 at its PLACE become 10 START at least")
    static void itIsCoinedAtItsPlaceAlone(Due due) {
        SlangYears x = after(2, "place;place;place;law 9 9 9;start 33;word 0 2 1;");
        due.is("ALL at 0", x.has(0, 0, 2), 0);
        due.is("ALL at 2", x.has(0, 2, 2), 0);
    }

    @Says("START (1 .. 99 hundredths; 20)")
    static void leastAndGreatestStart(Due due) {
        due.is("START of 1", Lands.with("place;start 1;word 0 0 0;").share(0, 0, 16), 10);
        due.is("START of 99", Lands.with("place;start 99;word 0 0 0;").share(0, 0, 16), 990);
    }

    @Says("It is the next YEAR; then WORDS are COINED")
    static void theYearAheadNobodyHasIt(Due due) {
        SlangYears x = after(1, "place;start 33;word 0 2 0;");
        due.is("ALL", x.has(0, 0, 2), 0);
        due.is("share of 16", x.share(0, 0, 16), 0);
    }

    @Says("It is the next YEAR; then WORDS are COINED")
    static void aWordOfYear90IsCoinedThen(Due due) {
        SlangYears x = after(89, "place;start 33;word 0 90 0;");
        due.is("share of 16 in year 89", x.share(0, 0, 16), 0);
        x.go(1);
        due.is("share of 16 in year 90", x.share(0, 0, 16), 330);
    }

    @Says("It is the next YEAR; then WORDS are COINED")
    static void itIsCoinedOnlyOnce(Due due) {
        SlangYears x = after(3, "place;law 0 0 0;start 33;word 0 2 0;");
        due.is("share of 15", x.share(0, 0, 15), 0);
        due.is("share of 18", x.share(0, 0, 18), 330);
    }
}
