/** Promise 2, type(v, n). */
final class Promise02 {
    private Promise02() { }

    @Says("The lowest n (1 .. 8) bytes of v")
    static void nOf1IsTheLeast(Due due) {
        SlangYears x = new SlangYears();
        due.is("type(59, 1)", x.type(59, 1), 1);
        due.is("count(5)", x.count(5), 1);
    }

    @Says("The lowest n (1 .. 8) bytes of v")
    static void nOf8IsTheMost(Due due) {
        SlangYears x = new SlangYears();
        due.is("type 8", x.type(Lands.packed("start 7;"), 8), 8);
        due.is("land()", x.land(), 1);
        due.is("START", x.law(3), 7);
    }

    @Says("The lowest n (1 .. 8) bytes of v")
    static void nOf0IsBad(Due due) {
        Twins.refused(due, Lands::busy, x -> x.type(59, 0), SlangYears.BAD);
    }

    @Says("The lowest n (1 .. 8) bytes of v")
    static void nOf9IsBad(Due due) {
        Twins.refused(due, Lands::busy, x -> x.type(59, 9), SlangYears.BAD);
    }

    @Says("The lowest n (1 .. 8) bytes of v")
    static void nBelow0IsBad(Due due) {
        Twins.refused(due, Lands::busy, x -> x.type(59, -1), SlangYears.BAD);
        Twins.refused(due, Lands::busy, x -> x.type(59, Integer.MIN_VALUE), SlangYears.BAD);
    }

    @Says("The lowest n (1 .. 8) bytes of v")
    static void nFarAboveIsBad(Due due) {
        Twins.refused(due, Lands::busy, x -> x.type(59, Integer.MAX_VALUE), SlangYears.BAD);
    }

    @Says("The lowest n (1 .. 8) bytes of v")
    static void higherBytesStayOut(Due due) {
        SlangYears x = new SlangYears();
        due.is("type 6 of 8", x.type(Lands.packed("##place;"), 6), 6);
        due.is("land()", x.land(), 1);
    }

    @Says("the highest of them first")
    static void theHighestOfThemComesFirst(Due due) {
        SlangYears x = new SlangYears();
        x.type(Lands.packed("start 12"), 8);
        x.type(Lands.packed(";"), 1);
        due.is("land()", x.land(), 1);
        due.is("START", x.law(3), 12);
    }

    @Says("come to THE TEXT")
    static void theyComeBehindThoseThatAreThere(Due due) {
        SlangYears x = new SlangYears();
        x.type(Lands.packed("start "), 6);
        x.type(Lands.packed("1"), 1);
        x.type(Lands.packed("2;"), 2);
        due.is("land()", x.land(), 1);
        due.is("START", x.law(3), 12);
    }

    @Says("The lowest n (1 .. 8) bytes of v")
    static void vBelow0HasBytesToo(Due due) {
        SlangYears x = Lands.withText("place");
        due.is("type(-197, 1)", x.type(-197, 1), 6);
        due.is("land(): its lowest byte is ;", x.land(), 1);
    }

    @Says("The lowest n (1 .. 8) bytes of v")
    static void bytesOf128AndAboveStayAsTheyAre(Due due) {
        SlangYears x = Lands.withText("place;");
        due.is("type of eight 255", x.type(-1, 8), 14);
        due.is("land()", x.land(), -10 - 6);
        x = Lands.withText("place;");
        due.is("type of 187, which is ; and 128", x.type(187, 1), 7);
        due.is("land()", x.land(), -10 - 6);
        x = Lands.withText("place;");
        due.is("type of 160, which is a blank and 128", x.type(Long.MIN_VALUE | 160, 1), 7);
        due.is("land()", x.land(), -10 - 6);
    }

    @Says("how many it has")
    static void itAnswersHowManyThereAreInAll(Due due) {
        SlangYears x = new SlangYears();
        due.is("type 3", x.type(0, 3), 3);
        due.is("type 5 more", x.type(0, 5), 8);
        due.is("type 1 more", x.type(0, 1), 9);
    }

    @Says("THE LAND is a text (300 bytes at most)")
    static void thereMayBe300Bytes(Due due) {
        SlangYears x = Lands.withText(" ".repeat(296));
        due.is("type up to 300", x.type(Lands.packed("  ;;"), 4), 300);
        due.is("count(5)", x.count(5), 300);
        due.is("land(): the 299th byte can't stand", x.land(), -10 - 298);
    }

    @Says("THE LAND is a text (300 bytes at most)")
    static void bytesUpTo301AreFull(Due due) {
        Twins.refused(due, () -> Lands.busyWithBytes(296), x -> x.type(0, 5), SlangYears.FULL);
        Twins.refused(due, () -> Lands.busyWithBytes(293), x -> x.type(0, 8), SlangYears.FULL);
    }

    @Says("THE LAND is a text (300 bytes at most)")
    static void oneByteBehind300IsFull(Due due) {
        Twins.refused(due, () -> Lands.busyWithBytes(300), x -> x.type(32, 1), SlangYears.FULL);
    }

    @Says("Refused, and nothing changes")
    static void behindAFullOneFewerBytesStillFit(Due due) {
        SlangYears x = Lands.withText(" ".repeat(296));
        due.is("type 8", x.type(0, 8), SlangYears.FULL);
        due.is("type 4", x.type(Lands.packed("   ;"), 4), 300);
        due.is("land()", x.land(), -10 - 299);
    }

    @Says("Refused, and nothing changes, the first of these: BAD (a number is not as told, or there is no such thing), "
        + "STATE (as told), FULL.")
    static void badIsAheadOfFull(Due due) {
        SlangYears x = Lands.withText(" ".repeat(300));
        due.is("n of 9", x.type(0, 9), SlangYears.BAD);
        due.is("n of 0", x.type(0, 0), SlangYears.BAD);
        due.is("n of the greatest", x.type(0, Integer.MAX_VALUE), SlangYears.BAD);
        due.is("n of 1", x.type(0, 1), SlangYears.FULL);
    }
}
