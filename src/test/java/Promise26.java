/** Promise 26, drawn(age, p). */
final class Promise26 {
    /** At once 500 of those of 15 to 17 have it at place 0. */
    private static final String ONE = Lands.STILL;

    private static final String THREE = "place;place;law 0 0 0;start 60;word 1 0 0;word 1 7 0;word 1 0 1;";

    private Promise26() { }

    private static int behind(int lot) {
        return lot * 1103515245 + 12345;
    }

    /** The lot that goes on to this one. */
    private static int ahead(int lot) {
        int inverse = 1;
        for (int i = 0; i < 5; i++) {
            inverse *= 2 - 1103515245 * inverse;
        }
        return (lot - 12345) * inverse;
    }

    /** A lot whose next one draws this, of 0 to 65535. */
    private static int drawing(int upper) {
        return ahead(upper << 16 | 777);
    }

    private static int drawn(String land, int upper, int age) {
        SlangYears x = Lands.with(land);
        x.lot(drawing(upper));
        return x.drawn(age, 0);
    }

    private static void bad(Due due, int age, int p) {
        Twins.refused(due, Lands::busy, x -> x.drawn(age, p), SlangYears.BAD);
    }

    @Says("has it, if DRAW is below SHARE")
    static void aDrawBelowTheShareHasIt(Due due) {
        due.is("draw 499 of 500", drawn(ONE, 499, 15), 1);
        due.is("draw 0 of 500", drawn(ONE, 0, 15), 1);
    }

    @Says("has it, if DRAW is below SHARE")
    static void aDrawAsTheShareHasItNot(Due due) {
        due.is("draw 500 of 500", drawn(ONE, 500, 15), 0);
        due.is("draw 501 of 500", drawn(ONE, 501, 15), 0);
    }

    @Says("has it, if DRAW is below SHARE")
    static void ofAShareOf0NobodyHasIt(Due due) {
        due.is("draw 0 of 0", drawn(ONE, 0, 18), 0);
        due.is("draw 999 of 0", drawn(ONE, 999, 18), 0);
    }

    @Says("DRAW: its upper 16 bits, as a number from 0 on, left over by 1000")
    static void itIsLeftOverBy1000(Due due) {
        due.is("draw 1499: 499", drawn(ONE, 1499, 15), 1);
        due.is("draw 1500: 500", drawn(ONE, 1500, 15), 0);
        due.is("draw 999: 999", drawn(ONE, 999, 15), 0);
        due.is("draw 1000: 0", drawn(ONE, 1000, 15), 1);
    }

    @Says("DRAW: its upper 16 bits, as a number from 0 on, left over by 1000")
    static void upperBitsOf32768AndAboveAreNotBelow0(Due due) {
        due.is("draw 65535: 535", drawn(ONE, 65535, 15), 0);
        due.is("draw 32768: 768", drawn(ONE, 32768, 15), 0);
        due.is("draw 65499: 499", drawn(ONE, 65499, 15), 1);
        due.is("draw 65500: 500", drawn(ONE, 65500, 15), 0);
    }

    @Says("WORD by WORD THE LOT goes on (times 1103515245 and 12345, wrapped")
    static void theLotGoesOnAsTold(Due due) {
        SlangYears x = Lands.with(ONE);
        x.drawn(15, 0);
        due.is("the lot behind 1", x.lot(0), 1103527590);
        x.drawn(15, 0);
        due.is("the lot behind 0", x.lot(Integer.MAX_VALUE), 12345);
        x.drawn(15, 0);
        due.is("the lot behind the greatest, wrapped", x.lot(-1), 1043980748);
        x.drawn(15, 0);
        due.is("the lot behind -1, wrapped", x.lot(0), -1103502900);
    }

    @Says("WORD by WORD THE LOT goes on")
    static void itGoesOnOnceForEachWordNotCoinedToo(Due due) {
        SlangYears x = Lands.with(THREE);
        due.is("COINED", x.word(1, 4), 0);
        x.drawn(15, 0);
        due.is("the lot behind three words", x.lot(0), behind(behind(behind(1))));
    }

    @Says("WORD by WORD THE LOT goes on")
    static void eachWordHasADrawOfItsOwn(Due due) {
        SlangYears x = Lands.with("place;law 0 0 0;start 50;word 1 0 0;word 1 0 0;word 1 0 0;");
        int lot = 1;
        for (int i = 0; i < 60; i++) {
            int bits = 0;
            for (int w = 0; w < 3; w++) {
                lot = behind(lot);
                long upper = (lot & 0xffffffffL) / 65536;
                bits |= upper % 1000 < 500 ? 1 << w : 0;
            }
            due.is("drawn, time " + i, x.drawn(15 + i % 3, 0), bits);
        }
    }

    @Says("DRAWN: one of an AGE at a PLACE")
    static void itIsOfItsPlaceAndAge(Due due) {
        SlangYears x = Lands.with("place;place;law 0 0 0;start 1;word 1 0 0;");
        x.song(0, 1, 99);
        x.go(1);
        int[] places = {0, 1, 1, 1, 1};
        int[] ages = {14, 13, 14, 20, 21};
        int[] has = {0, 0, 1, 1, 0};
        for (int i = 0; i < ages.length; i++) {
            x.lot(drawing(500));
            due.is("drawn(" + ages[i] + ", " + places[i] + ")", x.drawn(ages[i], places[i]), has[i]);
        }
    }

    @Says("DRAWN, as bits.")
    static void bit0IsWord0AndBit4Word4(Due due) {
        SlangYears x = Lands.with("place;law 0 0 0;start 99;word 1 0 0;word 1 5 0;word 1 5 0;word 1 5 0;word 1 0 0;");
        int lot = drawing(0);
        while (Integer.toUnsignedLong(behind(behind(behind(behind(behind(lot)))))) / 65536 % 1000 >= 990) {
            lot = ahead(behind(lot) + 1);
        }
        x.lot(lot);
        due.is("drawn(16, 0)", x.drawn(16, 0), 17);
    }

    @Says("DRAWN: one of an AGE at a PLACE")
    static void ages10And69Stand(Due due) {
        SlangYears x = Lands.with(ONE);
        due.is("drawn(10, 0)", x.drawn(10, 0), 0);
        x.go(52);
        x.lot(drawing(0));
        due.is("drawn(69, 0)", x.drawn(69, 0), 1);
    }

    @Says("DRAWN: one of an AGE at a PLACE")
    static void theFifthWordAndTheThirdPlaceStand(Due due) {
        SlangYears x = Lands.with(Lands.ALL);
        int lot = 1;
        for (int i = 0; i < 20; i++) {
            int bits = 0;
            for (int w = 0; w < 5; w++) {
                lot = behind(lot);
                boolean has = (lot & 0xffffffffL) / 65536 % 1000 < 400;
                bits |= has && (w == 2 || w == 4) ? 1 << w : 0;
            }
            due.is("drawn(16, 2), time " + i, x.drawn(16, 2), bits);
        }
    }

    @Says("WORD by WORD THE LOT goes on")
    static void withoutWordsTheLotStays(Due due) {
        SlangYears x = Lands.with("place;");
        due.is("drawn(15, 0)", x.drawn(15, 0), 0);
        due.is("the lot", x.lot(0), 1);
    }

    @Says("DRAWN, as bits. BAD.")
    static void ageOf9AndBelowIsBad(Due due) {
        bad(due, 9, 0);
        bad(due, Integer.MIN_VALUE, 0);
    }

    @Says("DRAWN, as bits. BAD.")
    static void ageOf70AndAboveIsBad(Due due) {
        bad(due, 70, 0);
        bad(due, Integer.MAX_VALUE, 0);
    }

    @Says("DRAWN, as bits. BAD.")
    static void aPlaceThatThereIsNotIsBad(Due due) {
        bad(due, 15, 3);
        bad(due, 15, -1);
        bad(due, 15, Integer.MAX_VALUE);
        bad(due, 15, Integer.MIN_VALUE);
        due.is("drawn without places", new SlangYears().drawn(15, 0), SlangYears.BAD);
    }
}
