/** Promise 3, clear(). */
final class Promise03 {
    private Promise03() { }

    @Says("how many bytes it had.")
    static void ofNoBytesItAnswers0(Due due) {
        due.is("clear()", new SlangYears().clear(), 0);
    }

    @Says("how many bytes it had.")
    static void of300BytesItAnswers300(Due due) {
        due.is("clear()", Lands.withText(" ".repeat(300)).clear(), 300);
    }

    @Says("THE TEXT is empty")
    static void theTextIsEmptyThen(Due due) {
        SlangYears x = Lands.withText("place");
        due.is("clear()", x.clear(), 5);
        due.is("count(5)", x.count(5), 0);
        due.is("land() of nothing", x.land(), 0);
    }

    @Says("THE TEXT is empty")
    static void clearedAgainItHad0(Due due) {
        SlangYears x = Lands.withText("place");
        x.clear();
        due.is("clear()", x.clear(), 0);
    }

    @Says("THE TEXT is empty")
    static void behindAFullTextThereIsRoomFor300(Due due) {
        SlangYears x = Lands.withText(" ".repeat(300));
        x.clear();
        Lands.type(x, " ".repeat(293) + "place;");
        due.is("type of the 300th", x.type(32, 1), 300);
        due.is("type of the 301st", x.type(32, 1), SlangYears.FULL);
        due.is("land()", x.land(), 1);
    }

    @Says("THE TEXT is empty")
    static void lettersThatWereClearedDoNotCome(Due due) {
        SlangYears x = Lands.withText("placeplace;");
        x.clear();
        Lands.type(x, "place");
        due.is("land(): it ends behind 5", x.land(), -10 - 5);
    }

    @Says("THE TEXT is empty")
    static void digitsThatWereClearedDoNotCome(Due due) {
        SlangYears x = Lands.withText("start 123;");
        x.clear();
        Lands.type(x, "start 1");
        due.is("land(): it ends behind 7", x.land(), -10 - 7);
        Lands.type(x, ";");
        due.is("land() of the rest too", x.land(), 1);
        due.is("START", x.law(3), 1);
    }

    @Says("THE TEXT is empty")
    static void nothingElseChanges(Due due) {
        SlangYears x = Lands.busy();
        due.is("clear()", x.clear(), 14);
        Lands.type(x, Lands.BUSY_TEXT);
        Twins.alike(due, "behind clear() and the same text, ", x, Lands.busy());
    }
}
