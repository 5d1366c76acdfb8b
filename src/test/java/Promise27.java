/** Promise 27, lot(v). */
final class Promise27 {
    private Promise27() { }

    @Says("THE LOT becomes v: what it was.")
    static void itIs1AtFirst(Due due) {
        due.is("lot(7)", new SlangYears().lot(7), 1);
    }

    @Says("THE LOT becomes v: what it was.")
    static void itAnswersWhatItWas(Due due) {
        SlangYears x = new SlangYears();
        x.lot(7);
        due.is("lot(8)", x.lot(8), 7);
        due.is("lot(8) again", x.lot(8), 8);
        due.is("lot(0)", x.lot(0), 8);
        due.is("lot(1)", x.lot(1), 0);
    }

    @Says("THE LOT becomes v: what it was.")
    static void itMayBeBelow0(Due due) {
        SlangYears x = new SlangYears();
        x.lot(-1);
        due.is("lot(-9) behind -1", x.lot(-9), -1);
        due.is("lot(-1000000) behind -9", x.lot(-1000000), -9);
        due.is("lot(0) behind -1000000", x.lot(0), -1000000);
    }

    @Says("THE LOT becomes v: what it was.")
    static void itMayBeAnyInt(Due due) {
        SlangYears x = new SlangYears();
        x.lot(Integer.MAX_VALUE);
        due.is("behind the greatest", x.lot(Integer.MIN_VALUE), Integer.MAX_VALUE);
        due.is("behind the least", x.lot(0), Integer.MIN_VALUE);
    }

    @Says("THE LOT goes on (times 1103515245 and 12345, wrapped")
    static void peopleAreDrawnByIt(Due due) {
        SlangYears x = Lands.still();
        x.lot(0);
        due.is("drawn(15, 0) of 12345: 0", x.drawn(15, 0), 1);
        due.is("lot(0)", x.lot(0), 12345);
    }
}
