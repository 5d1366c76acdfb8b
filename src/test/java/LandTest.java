/** Promises 1 to 8: a new object, the text, the land. */
public final class LandTest {
    private static final Due DUE = new Due("LandTest");

    public static void main(String[] args) {
        newObject();
        type();
        clear();
        landThatStands();
        blanks();
        faultsOfTokens();
        faultsOfNumbers();
        faultsOfItems();
        textsThatEndTooEarly();
        textsOf300();
        bytesOfAnEarlierText();
        landThatFails();
        landReadAnew();
        law();
        late();
        near();
        word();
        DUE.end();
    }

    private static void newObject() {
        SlangYears x = new SlangYears();
        for (int what = 0; what <= 5; what++) {
            DUE.is("new count(" + what + ")", x.count(what), 0);
        }
        DUE.is("new law(0)", x.law(0), 6);
        DUE.is("new law(1)", x.law(1), 3);
        DUE.is("new law(2)", x.law(2), 5);
        DUE.is("new law(3)", x.law(3), 20);
        DUE.is("new law(4)", x.law(4), 2);
        DUE.is("new trace()", x.trace(), 0);
        DUE.is("new lot(7)", x.lot(7), 1);
        DUE.is("new could()", x.could(), SlangYears.STATE);
        DUE.is("new back(0)", x.back(0), SlangYears.STATE);
        DUE.is("new back(1)", x.back(1), SlangYears.STATE);
        DUE.is("new near(0, 1)", x.near(0, 1), SlangYears.BAD);
        DUE.is("new word(0, 0)", x.word(0, 0), SlangYears.BAD);
        DUE.is("new land()", x.land(), 0);
    }

    private static void type() {
        SlangYears x = new SlangYears();
        DUE.is("type n 0", x.type(59, 0), SlangYears.BAD);
        DUE.is("type n -1", x.type(59, -1), SlangYears.BAD);
        DUE.is("type n 9", x.type(59, 9), SlangYears.BAD);
        DUE.is("type n least int", x.type(59, Integer.MIN_VALUE), SlangYears.BAD);
        DUE.is("count(5) behind BAD", x.count(5), 0);
        DUE.is("only the lowest bytes", x.type(0x1122706C61636511L >> 8, 5), 5);
        DUE.is("one byte", x.type(-197, 1), 6);
        DUE.is("the land of both", x.land(), 1);
        for (int i = 1; i <= 37; i++) {
            DUE.is("type 8", x.type(0x2020202020202020L, 8), 8 * i);
        }
        DUE.is("type beyond 300", x.type(0, 5), SlangYears.FULL);
        DUE.is("BAD ahead of FULL", x.type(0, 9), SlangYears.BAD);
        DUE.is("count(5) behind FULL", x.count(5), 296);
        DUE.is("type up to 300", x.type(0x20202020L, 4), 300);
        DUE.is("type behind 300", x.type(32, 1), SlangYears.FULL);
        DUE.is("300 blanks", x.land(), 0);
        DUE.is("bytes behind land", x.count(5), 0);
    }

    private static void clear() {
        SlangYears x = new SlangYears();
        DUE.is("clear of none", x.clear(), 0);
        x.type(0x6161, 2);
        DUE.is("clear of two", x.clear(), 2);
        DUE.is("clear again", x.clear(), 0);
        DUE.is("bytes behind clear", x.count(5), 0);
        DUE.is("land behind clear", x.land(), 0);
    }

    private static void landThatStands() {
        DUE.is("empty", Due.landOf(""), 0);
        DUE.is("a place", Due.landOf("place;"), 1);
        DUE.is("law and start without a place", Due.landOf("law 0 9 0;start 1;"), 2);
        DUE.is("start 99", Due.landOf("start 99;"), 1);
        DUE.is("greatest numbers", Due.landOf("place;place;place;near 1 2 9;law 9 9 9;word 3 90 2;"), 6);
        DUE.is("least numbers", Due.landOf("place;place;near 0 1 0;law 0 0 0;word 0 0 0;"), 5);
        DUE.is("nears again", Due.landOf("place;place;near 0 1 3;near 1 0 4;near 0 1 5;"), 5);
        DUE.is("places behind words", Due.landOf("place;word 0 0 0;place;word 0 0 1 plain;place;"), 5);
        SlangYears x = Due.with("word 0 0 0;");
        DUE.is("a fault leaves no places", x.count(0), 0);
        x = Due.with("place;word 1 5 0;place;word 2 0 1 plain;start 7;");
        DUE.is("count(0)", x.count(0), 2);
        DUE.is("count(1)", x.count(1), 2);
        DUE.is("count(5)", x.count(5), 0);
        DUE.is("START told behind the word counts", x.share(1, 1, 15), 70);
    }

    private static void blanks() {
        DUE.is("blanks everywhere", Due.landOf("  place  ;  place ; near  0  1  7 ;   "), 3);
        DUE.is("no blanks", Due.landOf("place;place;near0 1 7;law1 2 3;start5;word0 0 1plain;"), 6);
        DUE.is("only blanks", Due.landOf("     "), 0);
        DUE.is("two rows of letters are one", Due.landOf("place;word 0 0 0 plainplain;"), -10 - 17);
        DUE.is("two numbers are one", Due.landOf("law 11 1;"), -10 - 4);
        DUE.is("a tab is no blank", Due.landOf("place;\tplace;"), -10 - 6);
        DUE.is("a newline is no blank", Due.landOf("place;\n"), -10 - 6);
    }

    private static void faultsOfTokens() {
        DUE.is("no such word", Due.landOf("place; places;"), -10 - 7);
        DUE.is("a word too short", Due.landOf("plac;"), -10);
        DUE.is("two words run together", Due.landOf("placeplace;"), -10);
        DUE.is("z is a letter", Due.landOf("placez;"), -10);
        DUE.is("a is a letter", Due.landOf("placea;"), -10);
        DUE.is("letters behind a number", Due.landOf("start 5z;"), -10 - 7);
        DUE.is("9 is a digit", Due.landOf("start 19;"), 1);
        DUE.is("an upper letter", Due.landOf("Place;"), -10);
        DUE.is("an upper letter within", Due.landOf("plAce;"), -10);
        DUE.is("an upper letter behind", Due.landOf("place;nEar"), -10 - 6);
        DUE.is("byte 0", Due.landOf("place\0;"), -10 - 5);
        DUE.is("byte 255", Due.landOf("place;\u00ff"), -10 - 6);
        DUE.is("byte 224 is no letter", Due.landOf("pl\u00e0ce;"), -10);
        DUE.is("a minus", Due.landOf("start -1;"), -10 - 6);
        DUE.is("a colon", Due.landOf("place:"), -10 - 5);
        DUE.is("a slash in a number", Due.landOf("start 1/;"), -10 - 7);
        DUE.is("a brace behind letters", Due.landOf("place{;"), -10 - 5);
        DUE.is("a back-tick", Due.landOf("`"), -10);
    }

    private static void faultsOfNumbers() {
        DUE.is("a 0 ahead", Due.landOf("start 05;"), -10 - 6);
        DUE.is("00", Due.landOf("law 00 1 1;"), -10 - 4);
        DUE.is("0 in a law", Due.landOf("law 0 1 1;"), 1);
        DUE.is("100", Due.landOf("start 100;"), -10 - 6);
        DUE.is("start 0", Due.landOf("start 0;"), -10 - 6);
        DUE.is("a number above all ints", Due.landOf("start 4294967297;"), -10 - 6);
        DUE.is("take 10", Due.landOf("law 10 1 1;"), -10 - 4);
        DUE.is("learn 10", Due.landOf("law 1 10 1;"), -10 - 6);
        DUE.is("drop 10", Due.landOf("law 1 1 10;"), -10 - 8);
        DUE.is("near 10", Due.landOf("place;place;near 0 1 10;"), -10 - 21);
        DUE.is("meaning 4", Due.landOf("place;word 4 0 0;"), -10 - 11);
        DUE.is("year 91", Due.landOf("place;word 0 91 0;"), -10 - 13);
        DUE.is("place 1 of 1", Due.landOf("place;word 0 0 1;"), -10 - 15);
        DUE.is("a place told too late", Due.landOf("place;near 0 1 5;place;"), -10 - 13);
        DUE.is("near without places", Due.landOf("near 0 1 5;"), -10 - 5);
        DUE.is("near of a place that is not", Due.landOf("place;place;near 2 0 1;"), -10 - 17);
        DUE.is("a B that is A", Due.landOf("place;place;near 1 1 5;"), -10 - 19);
    }

    private static void faultsOfItems() {
        DUE.is("a fourth place", Due.landOf("place;place;place; place;"), -10 - 19);
        DUE.is("law again", Due.landOf("law 1 1 1;law 1 1 1;"), -10 - 10);
        DUE.is("start again", Due.landOf("start 1;start 1;"), -10 - 8);
        String five = "place;word 0 0 0;word 0 0 0;word 0 0 0;word 0 0 0;word 0 0 0;";
        DUE.is("five words", Due.landOf(five), 6);
        DUE.is("a sixth word", Due.landOf(five + "word 0 0 0;"), -10 - five.length());
        DUE.is("; alone", Due.landOf(";"), -10);
        DUE.is("; twice", Due.landOf("place;;"), -10 - 6);
        DUE.is("a number first", Due.landOf("5;"), -10);
        DUE.is("plain first", Due.landOf("plain;"), -10);
        DUE.is("plain twice", Due.landOf("place;word 0 0 0 plain plain;"), -10 - 23);
        DUE.is("plain behind place", Due.landOf("place plain;"), -10 - 6);
        DUE.is("place behind word", Due.landOf("place;word 0 0 0 place;"), -10 - 17);
        DUE.is("place with a number", Due.landOf("place 1;"), -10 - 6);
        DUE.is("a number too many", Due.landOf("law 1 1 1 1;"), -10 - 10);
        DUE.is("a number too few", Due.landOf("law 1 1;"), -10 - 7);
        DUE.is("start with two", Due.landOf("start 1 1;"), -10 - 8);
        DUE.is("a fault ahead of a foreign byte", Due.landOf("start 0 #"), -10 - 6);
    }

    private static void textsThatEndTooEarly() {
        DUE.is("place without ;", Due.landOf("place"), -10 - 5);
        DUE.is("blanks behind", Due.landOf("place  "), -10 - 7);
        DUE.is("law", Due.landOf("law"), -10 - 3);
        DUE.is("law 1", Due.landOf("law 1"), -10 - 5);
        DUE.is("law 1 1", Due.landOf("law 1 1 "), -10 - 8);
        DUE.is("law 1 1 1", Due.landOf("law 1 1 1"), -10 - 9);
        DUE.is("start", Due.landOf("start "), -10 - 6);
        DUE.is("near 0 1 5", Due.landOf("place;place;near 0 1 5"), -10 - 22);
        DUE.is("word 0 0 0", Due.landOf("place;word 0 0 0"), -10 - 16);
        DUE.is("word 0 0 0 plain", Due.landOf("place;word 0 0 0 plain"), -10 - 22);
    }

    private static void textsOf300() {
        DUE.is("300 that end in letters", Due.landOf(" ".repeat(295) + "place"), -10 - 300);
        DUE.is("300 that end in other letters", Due.landOf(" ".repeat(295) + "plain"), -10 - 295);
        DUE.is("300 that end in a number", Due.landOf("start" + " ".repeat(294) + "5"), -10 - 300);
        DUE.is("300 that end in ;", Due.landOf("start" + " ".repeat(293) + "5;"), 1);
        DUE.is("300 digits", Due.landOf("5".repeat(300)), -10);
        DUE.is("digits behind start", Due.landOf("start" + "5".repeat(295)), -10 - 5);
        DUE.is("300 letters", Due.landOf("word".repeat(75)), -10);
        String places = "place;place;place;";
        DUE.is("many items", Due.landOf(places + "near 0 1 5;near 1 2 5;".repeat(12) + "start 9;"), 28);
    }

    private static void bytesOfAnEarlierText() {
        SlangYears x = new SlangYears();
        Due.type(x, "placeplace;");
        x.clear();
        Due.type(x, "place");
        DUE.is("letters that were cleared", x.land(), -10 - 5);
        x.clear();
        Due.type(x, "start 123;");
        x.clear();
        Due.type(x, "start 1");
        DUE.is("digits that were cleared", x.land(), -10 - 7);
        Due.type(x, ";");
        DUE.is("the rest", x.land(), 1);
        DUE.is("START", x.law(3), 1);
    }

    private static void landThatFails() {
        SlangYears x = Due.with("place;place;near 0 1 5;law 1 2 3;start 44;word 2 0 0;");
        x.go(3);
        x.song(0, 1, 50);
        x.writing(5, 20, 0);
        x.letter(1, 1, 16, 0);
        x.keep(0);
        Due.type(x, "place;law 9 9 9;start 9;word 0 0 0;word 9");
        DUE.is("land of a fault", x.land(), -10 - 40);
        DUE.is("the text stays", x.count(5), 41);
        DUE.is("the places stay", x.count(0), 2);
        DUE.is("the words stay", x.count(1), 1);
        DUE.is("the year stays", x.count(2), 3);
        DUE.is("the songs stay", x.count(3), 1);
        DUE.is("the writings stay", x.count(4), 1);
        DUE.is("TAKE stays", x.law(0), 1);
        DUE.is("START stays", x.law(3), 44);
        DUE.is("NEAR stays", x.near(0, 1), 5);
        DUE.is("MEANING stays", x.word(0, 0), 2);
        DUE.is("SHARE stays", x.share(0, 1, 13), 500);
        DUE.is("the letter stays", x.could() != SlangYears.STATE ? 1 : 0, 1);
        DUE.is("land again", x.land(), -10 - 40);
        DUE.is("the image stays", x.back(0), 3);
        DUE.is("clear", x.clear(), 41);
    }

    private static void landReadAnew() {
        SlangYears x = Due.with("place;place;near 0 1 5;law 1 2 4;start 44;word 2 0 0;");
        x.late(9);
        x.lot(77);
        x.go(3);
        x.song(0, 1, 50);
        x.writing(5, 20, 0);
        x.letter(1, 0, 16, 0);
        x.keep(0);
        x.keep(1);
        x.rate(0, 0);
        Due.type(x, "place;place;word 1 0 0;");
        DUE.is("land anew", x.land(), 3);
        DUE.is("TAKE as at first", x.law(0), 6);
        DUE.is("LEARN as at first", x.law(1), 3);
        DUE.is("DROP as at first", x.law(2), 5);
        DUE.is("START as at first", x.law(3), 20);
        DUE.is("LATE stays", x.law(4), 9);
        DUE.is("NEAR as at first", x.near(0, 1), 0);
        DUE.is("NEAR as at first, the other way", x.near(1, 0), 0);
        DUE.is("MEANING", x.word(0, 0), 1);
        DUE.is("YEAR 0", x.count(2), 0);
        DUE.is("no songs", x.count(3), 0);
        DUE.is("no writings", x.count(4), 0);
        DUE.is("no letter", x.could(), SlangYears.STATE);
        DUE.is("image 0 is gone", x.back(0), SlangYears.STATE);
        DUE.is("image 1 is gone", x.back(1), SlangYears.STATE);
        DUE.is("shares anew", x.share(0, 1, 13), 0);
        DUE.is("coined anew", x.share(0, 0, 15), 200);
        DUE.is("the trace stays", x.trace(), 1);
        DUE.is("the lot stays", x.lot(1), 77);
        DUE.is("an empty land", x.land(), 0);
        DUE.is("no places", x.count(0), 0);
        DUE.is("no words", x.count(1), 0);
        Due.type(x, "place;word 0 1 0 plain;");
        x.land();
        DUE.is("plain", x.word(0, 3), 1);
        Due.type(x, "place;word 0 1 0;");
        x.land();
        DUE.is("not plain anew", x.word(0, 3), 0);
    }

    private static void law() {
        SlangYears x = Due.with("law 1 2 4;start 98;");
        DUE.is("law(0)", x.law(0), 1);
        DUE.is("law(1)", x.law(1), 2);
        DUE.is("law(2)", x.law(2), 4);
        DUE.is("law(3)", x.law(3), 98);
        DUE.is("law(4)", x.law(4), 2);
        DUE.is("law(5)", x.law(5), SlangYears.BAD);
        DUE.is("law(-1)", x.law(-1), SlangYears.BAD);
    }

    private static void late() {
        SlangYears x = new SlangYears();
        DUE.is("late(31)", x.late(31), SlangYears.BAD);
        DUE.is("late(-1)", x.late(-1), SlangYears.BAD);
        DUE.is("late(30)", x.late(30), 2);
        DUE.is("late(0)", x.late(0), 30);
        DUE.is("late(5)", x.late(5), 0);
        DUE.is("law(4)", x.law(4), 5);
    }

    private static void near() {
        SlangYears x = Due.with("place;place;place;near 0 1 3;near 2 1 9;near 1 0 4;");
        DUE.is("near(0, 1)", x.near(0, 1), 4);
        DUE.is("near(1, 0)", x.near(1, 0), 4);
        DUE.is("near(1, 2)", x.near(1, 2), 9);
        DUE.is("near(2, 1)", x.near(2, 1), 9);
        DUE.is("near(0, 2)", x.near(0, 2), 0);
        DUE.is("near(1, 1)", x.near(1, 1), SlangYears.BAD);
        DUE.is("near(3, 0)", x.near(3, 0), SlangYears.BAD);
        DUE.is("near(0, 3)", x.near(0, 3), SlangYears.BAD);
        DUE.is("near(-1, 0)", x.near(-1, 0), SlangYears.BAD);
        DUE.is("near(0, -1)", x.near(0, -1), SlangYears.BAD);
        x = Due.with("place;place;");
        DUE.is("near of a place not told", x.near(0, 2), SlangYears.BAD);
    }

    private static void word() {
        SlangYears x = Due.with("place;place;word 3 2 1 plain;word 1 90 0;");
        DUE.is("MEANING", x.word(0, 0), 3);
        DUE.is("YEAR", x.word(0, 1), 2);
        DUE.is("PLACE", x.word(0, 2), 1);
        DUE.is("PLAIN", x.word(0, 3), 1);
        DUE.is("COINED", x.word(0, 4), 0);
        DUE.is("the second's MEANING", x.word(1, 0), 1);
        DUE.is("the second's YEAR", x.word(1, 1), 90);
        DUE.is("the second's PLACE", x.word(1, 2), 0);
        DUE.is("the second is not PLAIN", x.word(1, 3), 0);
        DUE.is("word what 5", x.word(0, 5), SlangYears.BAD);
        DUE.is("word what -1", x.word(0, -1), SlangYears.BAD);
        DUE.is("word 2", x.word(2, 0), SlangYears.BAD);
        DUE.is("word -1", x.word(-1, 0), SlangYears.BAD);
        x.go(1);
        DUE.is("a year ahead", x.word(0, 4), 0);
        x.go(1);
        DUE.is("COINED in its year", x.word(0, 4), 1);
        x.anew();
        DUE.is("not COINED anew", x.word(0, 4), 0);
    }
}
