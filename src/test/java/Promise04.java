/** Promise 4, land(): the text that tells THE LAND, its FAULTS, what a LAND read anew leaves. */
final class Promise04 {
    private static final String NEAR = "near A B V (PLACES that were told, not one and the same; V 0 .. 9";

    private static final String READ_ANEW = "A LAND read anew: what is not told is as at first";

    private static final String GONE = "YEAR 0, no SONGS, no WRITINGS, no LETTER, IMAGES are gone";

    private static final String FIVE_WORDS = "place;word 0 0 0;word 0 0 0;word 0 0 0;word 0 0 0;word 0 0 0;";

    private Promise04() { }

    private static void stands(Due due, String text, int items) {
        due.is("land() of '" + text + "'", Lands.itemsOf(text), items);
    }

    private static void fault(Due due, String text, int place) {
        due.is("land() of '" + text + "'", Lands.itemsOf(text), -10 - place);
    }

    // ---- items, blanks

    @Says("ITEMS (none, too)")
    static void anEmptyTextHasNoItems(Due due) {
        stands(due, "", 0);
    }

    @Says("how many ITEMS.")
    static void itAnswersHowManyItemsThereAre(Due due) {
        stands(due, "place;", 1);
        stands(due, "place;place;near 0 1 5;law 1 2 3;start 4;word 0 0 0;word 0 0 0 plain;", 7);
        stands(due, "place;place;place;" + "near 0 1 5;near 1 2 5;".repeat(12) + "start 9;", 28);
    }

    @Says("blanks (32), any number, ahead of, between, behind TOKENS")
    static void blanksAloneAreNoItem(Due due) {
        stands(due, " ", 0);
        stands(due, " ".repeat(300), 0);
    }

    @Says("blanks (32), any number, ahead of, between, behind TOKENS")
    static void blanksMayStandAheadOfTokens(Due due) {
        stands(due, " place;", 1);
        stands(due, " ".repeat(294) + "place;", 1);
    }

    @Says("blanks (32), any number, ahead of, between, behind TOKENS")
    static void blanksMayStandBetweenTokens(Due due) {
        stands(due, "place  ;  place ; near  0  1   7 ;law 1  2   3;start  1 ;word  0 0  1   plain  ;", 6);
    }

    @Says("blanks (32), any number, ahead of, between, behind TOKENS")
    static void blanksMayStandBehindTokens(Due due) {
        stands(due, "place; ", 1);
        stands(due, "place;" + " ".repeat(294), 1);
    }

    @Says("(needed only between two rows of letters, two NUMBERS)")
    static void noOtherBlanksAreNeeded(Due due) {
        stands(due, "place;place;near0 1 7;law1 2 3;start5;word0 0 1plain;word0 0 1;", 7);
    }

    @Says("(needed only between two rows of letters, two NUMBERS)")
    static void twoRowsOfLettersWithoutABlankAreOne(Due due) {
        fault(due, "place;word 0 0 0 plainplain;", 17);
        fault(due, "placeplace;", 0);
    }

    @Says("(needed only between two rows of letters, two NUMBERS)")
    static void twoNumbersWithoutABlankAreOne(Due due) {
        fault(due, "law 11 1;", 4);
        fault(due, "place;place;near 01 5;", 17);
    }

    @Says("blanks (32)")
    static void noOtherByteIsABlank(Due due) {
        fault(due, "place;\tplace;", 6);
        fault(due, "place;\n", 6);
        fault(due, "place\r;", 5);
        fault(due, "place\0;", 5);
        fault(due, "place\u00a0;", 5);
    }

    @Says("each ended by ;")
    static void anItemWithoutItsEndIsAFault(Due due) {
        fault(due, "place place;", 6);
        fault(due, "start 1 start;", 8);
        fault(due, "law 1 1 1 place;", 10);
        fault(due, "place;place;near 0 1 5 near", 23);
        fault(due, "place;word 0 0 0 word", 17);
        fault(due, "place;word 0 0 0 plain word", 23);
    }

    @Says("each ended by ;")
    static void anEndWithoutItsItemIsAFault(Due due) {
        fault(due, ";", 0);
        fault(due, "place;;", 6);
    }

    // ---- places, nears

    @Says("(3 at most) are NEAR one another")
    static void threePlacesStand(Due due) {
        stands(due, "place;place;place;", 3);
        due.is("count(0)", Lands.with("place;place;place;").count(0), 3);
    }

    @Says("(a fourth place, a sixth word, law or start told again, a B that is A, a NUMBER beyond what it may be, too)")
    static void aFourthPlaceIsAFault(Due due) {
        fault(due, "place;place;place; place;", 19);
        fault(due, "place;place;place;law 1 1 1;place;", 28);
    }

    @Says(NEAR)
    static void vOf0IsTheLeast(Due due) {
        SlangYears x = Lands.with("place;place;near 0 1 4;near 0 1 0;");
        due.is("count(0)", x.count(0), 2);
        due.is("near(0, 1)", x.near(0, 1), 0);
    }

    @Says(NEAR)
    static void vOf9IsTheMost(Due due) {
        due.is("near(0, 1)", Lands.with("place;place;near 0 1 9;").near(0, 1), 9);
    }

    @Says(NEAR)
    static void vOf10IsAFault(Due due) {
        fault(due, "place;place;near 0 1 10;", 21);
        fault(due, "place;place;near 0 1 99;", 21);
    }

    @Says(NEAR)
    static void anAThatWasNotToldIsAFault(Due due) {
        fault(due, "place;place;near 2 0 1;", 17);
        fault(due, "near 0 1 5;", 5);
    }

    @Says(NEAR)
    static void aBThatWasNotToldIsAFault(Due due) {
        fault(due, "place;near 0 1 5;", 13);
        fault(due, "place;place;place;near 0 3 5;", 25);
    }

    @Says(NEAR)
    static void placesToldBehindTheNearDoNotCount(Due due) {
        fault(due, "place;near 0 1 5;place;", 13);
        fault(due, "place;place;near 2 1 5;place;", 17);
    }

    @Says(NEAR)
    static void aBThatIsAIsAFault(Due due) {
        fault(due, "place;place;near 1 1 5;", 19);
        fault(due, "place;near 0 0 5;", 13);
    }

    @Says("told again, what is later counts")
    static void ofNearToldAgainTheLaterCounts(Due due) {
        due.is("near(0, 1)", Lands.with("place;place;near 0 1 3;near 0 1 8;").near(0, 1), 8);
        due.is("near(0, 1), then less", Lands.with("place;place;near 0 1 8;near 0 1 3;").near(0, 1), 3);
    }

    @Says("told again, what is later counts")
    static void ofNearToldAgainTheOtherWayTheLaterCounts(Due due) {
        SlangYears x = Lands.with("place;place;near 0 1 3;near 1 0 8;");
        due.is("near(0, 1)", x.near(0, 1), 8);
        due.is("near(1, 0)", x.near(1, 0), 8);
    }

    // ---- law, start

    @Says("THE LAW: TAKE (0 .. 9; 6 at first), LEARN (0 .. 9; 3), DROP (0 .. 9; 5).")
    static void lawsOf0AreTheLeast(Due due) {
        SlangYears x = Lands.with("law 0 0 0;");
        due.is("TAKE", x.law(0), 0);
        due.is("LEARN", x.law(1), 0);
        due.is("DROP", x.law(2), 0);
    }

    @Says("THE LAW: TAKE (0 .. 9; 6 at first), LEARN (0 .. 9; 3), DROP (0 .. 9; 5).")
    static void lawsOf9AreTheMost(Due due) {
        SlangYears x = Lands.with("law 9 9 9;");
        due.is("TAKE", x.law(0), 9);
        due.is("LEARN", x.law(1), 9);
        due.is("DROP", x.law(2), 9);
    }

    @Says("THE LAW: TAKE (0 .. 9; 6 at first)")
    static void takeOf10IsAFault(Due due) {
        fault(due, "law 10 1 1;", 4);
    }

    @Says("LEARN (0 .. 9; 3)")
    static void learnOf10IsAFault(Due due) {
        fault(due, "law 1 10 1;", 6);
    }

    @Says("DROP (0 .. 9; 5)")
    static void dropOf10IsAFault(Due due) {
        fault(due, "law 1 1 10;", 8);
    }

    @Says("law or start told again")
    static void lawToldAgainIsAFault(Due due) {
        fault(due, "law 1 1 1;law 1 1 1;", 10);
        fault(due, "law 1 1 1;start 1;law", 18);
    }

    @Says("START (1 .. 99 hundredths; 20)")
    static void startOf1IsTheLeast(Due due) {
        due.is("START", Lands.with("start 1;").law(3), 1);
    }

    @Says("START (1 .. 99 hundredths; 20)")
    static void startOf99IsTheMost(Due due) {
        due.is("START", Lands.with("start 99;").law(3), 99);
    }

    @Says("START (1 .. 99 hundredths; 20)")
    static void startOf0IsAFault(Due due) {
        fault(due, "start 0;", 6);
    }

    @Says("law or start told again")
    static void startToldAgainIsAFault(Due due) {
        fault(due, "start 1;start 1;", 8);
        fault(due, "start 1;law 1 1 1;start", 18);
    }

    @Says("law T L D ; start S ;")
    static void lawAndStartStandOnceInEachText(Due due) {
        SlangYears x = Lands.with("law 1 2 3;start 5;");
        Lands.type(x, "law 3 2 1;start 6;");
        due.is("land() again", x.land(), 2);
        due.is("TAKE", x.law(0), 3);
        due.is("START", x.law(3), 6);
    }

    // ---- words

    @Says("WORDS 0 .. (5 at most)")
    static void fiveWordsStand(Due due) {
        stands(due, FIVE_WORDS, 6);
        due.is("count(1)", Lands.with(FIVE_WORDS).count(1), 5);
    }

    @Says("a sixth word")
    static void aSixthWordIsAFault(Due due) {
        fault(due, FIVE_WORDS + "word 0 0 0;", FIVE_WORDS.length());
        fault(due, FIVE_WORDS + "start 5; word", FIVE_WORDS.length() + 9);
    }

    @Says("have a MEANING (0 .. 3)")
    static void meaning0IsTheLeast(Due due) {
        due.is("MEANING", Lands.with("place;word 0 5 0;").word(0, 0), 0);
    }

    @Says("have a MEANING (0 .. 3)")
    static void meaning3IsTheMost(Due due) {
        due.is("MEANING", Lands.with("place;word 3 5 0;").word(0, 0), 3);
    }

    @Says("have a MEANING (0 .. 3)")
    static void meaning4IsAFault(Due due) {
        fault(due, "place;word 4 0 0;", 11);
    }

    @Says("a YEAR in which they are coined (0 .. 90)")
    static void year0IsTheLeast(Due due) {
        due.is("YEAR", Lands.with("place;word 1 0 0;").word(0, 1), 0);
    }

    @Says("a YEAR in which they are coined (0 .. 90)")
    static void year90IsTheMost(Due due) {
        due.is("YEAR", Lands.with("place;word 1 90 0;").word(0, 1), 90);
    }

    @Says("a YEAR in which they are coined (0 .. 90)")
    static void year91IsAFault(Due due) {
        fault(due, "place;word 0 91 0;", 13);
        fault(due, "place;word 0 99 0;", 13);
    }

    @Says("word M Y P (a PLACE that was told)")
    static void aPlaceOfAWordThatWasNotToldIsAFault(Due due) {
        fault(due, "place;word 0 0 1;", 15);
        fault(due, "word 0 0 0;", 9);
        fault(due, "place;place;place;word 0 0 3;", 27);
    }

    @Says("word M Y P (a PLACE that was told)")
    static void aPlaceToldBehindTheWordDoesNotCount(Due due) {
        fault(due, "place;word 0 0 1;place;", 15);
        stands(due, "place;word 0 0 0;place;word 0 0 1;place;word 0 0 2;", 6);
    }

    @Says("then perhaps plain.")
    static void aWordMayBePlainOrNot(Due due) {
        SlangYears x = Lands.with("place;word 0 0 0 plain;word 0 0 0;");
        due.is("word(0, 3)", x.word(0, 3), 1);
        due.is("word(1, 3)", x.word(1, 3), 0);
    }

    @Says("then perhaps plain.")
    static void plainTwiceIsAFault(Due due) {
        fault(due, "place;word 0 0 0 plain plain;", 23);
    }

    @Says("then perhaps plain.")
    static void plainElsewhereIsAFault(Due due) {
        fault(due, "plain;", 0);
        fault(due, "place plain;", 6);
        fault(due, "start 5 plain;", 8);
        fault(due, "place;word plain 0 0 0;", 11);
        fault(due, "place;word 0 0 plain;", 15);
    }

    // ---- faults of tokens

    @Says("-10 less FAULT")
    static void theFirstByteIs0(Due due) {
        fault(due, "?", 0);
        fault(due, "?place;", 0);
    }

    @Says("-10 less FAULT")
    static void theLastByteOf300Is299(Due due) {
        fault(due, " ".repeat(299) + "?", 299);
        fault(due, " ".repeat(299) + "5", 299);
    }

    @Says("the place of the first byte of the first TOKEN that can't stand there")
    static void ofSeveralFaultsItIsTheFirst(Due due) {
        fault(due, "start 0 #", 6);
        fault(due, "start 0 \u00ff", 6);
        fault(due, "placeplace; start 05", 0);
        fault(due, "place;near 0 0 10;", 13);
        fault(due, "law 10 10 10", 4);
        fault(due, "place 05 ?", 6);
    }

    @Says("the place of the first byte of the first TOKEN that can't stand there")
    static void aNumberWhereNoneCanStandIsAFault(Due due) {
        fault(due, "5;", 0);
        fault(due, "place 1;", 6);
        fault(due, "law 1 1 1 1;", 10);
        fault(due, "start 1 1;", 8);
        fault(due, "place;word 0 0 0 1;", 17);
        fault(due, "place;word 0 0 0 plain 1;", 23);
    }

    @Says("the place of the first byte of the first TOKEN that can't stand there")
    static void aNumberTooFewIsAFault(Due due) {
        fault(due, "law 1 1;", 7);
        fault(due, "start;", 5);
        fault(due, "place;place;near 0 1;", 20);
        fault(due, "place;word 0 0;", 14);
        fault(due, "place;word;", 10);
    }

    @Says("of a byte that begins none")
    static void everyByteThatBeginsNoneIsAFault(Due due) {
        for (char b = 0; b <= 255; b++) {
            boolean begins = b == ' ' || b == ';' || b >= '0' && b <= '9' || b >= 'a' && b <= 'z';
            if (!begins) {
                due.is("byte " + (int) b + " first", Lands.itemsOf("place; " + b + "lace;"), -10 - 7);
                due.is("byte " + (int) b + " behind letters", Lands.itemsOf("place" + b + ";"), -10 - 5);
                due.is("byte " + (int) b + " behind digits", Lands.itemsOf("start 5" + b + ";"), -10 - 7);
            }
        }
    }

    @Says("TOKENS are words of letters a .. z")
    static void lettersFromAToZMakeAWord(Due due) {
        fault(due, "placea;", 0);
        fault(due, "placez;", 0);
        fault(due, "start 5a;", 7);
        fault(due, "start 5z;", 7);
    }

    @Says("TOKENS are words of letters a .. z")
    static void upperLettersBeginNone(Due due) {
        fault(due, "Place;", 0);
        fault(due, "plAce;", 0);
        fault(due, "place;PLACE;", 6);
        fault(due, "placeE;", 5);
        fault(due, "start 5A;", 7);
        fault(due, "start 5Z;", 7);
    }

    @Says("a word that is none of these")
    static void aWordThatIsNoneOfTheseIsAFaultAtItsFirstByte(Due due) {
        fault(due, "place; places;", 7);
        fault(due, "plac;", 0);
        fault(due, "p;", 0);
        fault(due, "place;near one;", 11);
        fault(due, "place;word 0 0 0 plein;", 17);
        fault(due, "word".repeat(75), 0);
    }

    @Says("a word that is none of these")
    static void aWordWithAnyLetterChangedIsNoneOfThese(Due due) {
        String[] ahead = {"", "place;place;", "", "", "place;", "place;word 0 0 0 "};
        String[] words = {"place", "near", "law", "start", "word", "plain"};
        String[] behind = {";", " 0 1 5;", " 1 2 3;", " 5;", " 0 0 0;", ";"};
        for (int k = 0; k < words.length; k++) {
            String word = words[k];
            due.is("land() with " + word, Lands.itemsOf(ahead[k] + word + behind[k]) > 0 ? 1 : 0, 1);
            for (int i = 0; i < word.length(); i++) {
                String first = ahead[k] + word.substring(0, i);
                String last = word.substring(i + 1) + behind[k];
                fault(due, first + "x" + last, ahead[k].length());
                fault(due, first + last, ahead[k].length());
            }
        }
    }

    @Says("a NUMBER above 99")
    static void aNumberOf99IsOne(Due due) {
        stands(due, "start 99;", 1);
    }

    @Says("a NUMBER above 99")
    static void aNumberAbove99IsAFaultAtItsFirstByte(Due due) {
        fault(due, "start 100;", 6);
        fault(due, "start 100", 6);
        fault(due, "place;place;near 0 100 1;", 19);
    }

    @Says("a NUMBER above 99")
    static void aNumberAboveAllIntsIsAFaultToo(Due due) {
        fault(due, "start 4294967297;", 6);
        fault(due, "start 18446744073709551617;", 6);
        fault(due, "5".repeat(300), 0);
        fault(due, "start" + "5".repeat(295), 5);
    }

    @Says("or with a 0 ahead of others, that TOKEN's")
    static void aNumberWithA0AheadOfOthersIsAFault(Due due) {
        fault(due, "start 05;", 6);
        fault(due, "law 00 1 1;", 4);
        fault(due, "law 1 001 1;", 6);
    }

    @Says("or with a 0 ahead of others, that TOKEN's")
    static void a0AloneAndA0BehindAreNone(Due due) {
        stands(due, "law 0 0 0;", 1);
        stands(due, "start 10;", 1);
    }

    @Says("the text's length, if it ends too early")
    static void aTextThatEndsBehindAHeadIsAFaultAtItsLength(Due due) {
        fault(due, "place", 5);
        fault(due, "near", 4);
        fault(due, "law", 3);
        fault(due, "start", 5);
        fault(due, "word", 4);
    }

    @Says("the text's length, if it ends too early")
    static void aTextThatEndsBehindANumberIsAFaultAtItsLength(Due due) {
        fault(due, "law 1", 5);
        fault(due, "law 1 1", 7);
        fault(due, "law 1 1 1", 9);
        fault(due, "start 1", 7);
        fault(due, "place;place;near 0", 18);
        fault(due, "place;place;near 0 1", 20);
        fault(due, "place;place;near 0 1 5", 22);
        fault(due, "place;word 0", 12);
        fault(due, "place;word 0 0", 14);
        fault(due, "place;word 0 0 0", 16);
    }

    @Says("the text's length, if it ends too early")
    static void aTextThatEndsBehindPlainIsAFaultAtItsLength(Due due) {
        fault(due, "place;word 0 0 0 plain", 22);
    }

    @Says("the text's length, if it ends too early")
    static void itsBlanksAreOfItsLength(Due due) {
        fault(due, "place  ", 7);
        fault(due, "law 1 1 ", 8);
        fault(due, "start 5" + " ".repeat(293), 300);
    }

    @Says("the text's length, if it ends too early")
    static void of300BytesItIs300(Due due) {
        fault(due, " ".repeat(295) + "place", 300);
        fault(due, "start" + " ".repeat(294) + "5", 300);
        stands(due, "start" + " ".repeat(293) + "5;", 1);
    }

    @Says("a word that is none of these, a NUMBER above 99 or with a 0 ahead of others, that TOKEN's")
    static void aTokenThatCannotStandIsAheadOfTheEnd(Due due) {
        fault(due, " ".repeat(295) + "plain", 295);
        fault(due, "start 0", 6);
        fault(due, "place;plac", 6);
    }

    // ---- what comes of it

    @Says("THE TEXT becomes THE LAND, and is empty then")
    static void theTextIsEmptyThen(Due due) {
        SlangYears x = Lands.withText("place;");
        x.land();
        due.is("count(5)", x.count(5), 0);
        due.is("clear()", x.clear(), 0);
        due.is("land() again", x.land(), 0);
        due.is("count(0)", x.count(0), 0);
    }

    @Says("-10 less FAULT: nothing changes (THE TEXT stays, too).")
    static void behindAFaultTheTextStays(Due due) {
        SlangYears x = Lands.withText("place;word 0 0");
        due.is("land()", x.land(), -10 - 14);
        due.is("count(5)", x.count(5), 14);
        due.is("land() again", x.land(), -10 - 14);
        Lands.type(x, " 0;");
        due.is("land() with the rest", x.land(), 2);
    }

    private static SlangYears busyWithAFault() {
        SlangYears x = Lands.busy();
        x.clear();
        Lands.type(x, "place;place;near 0 1 1;law 1 1 1;start 1;word 3 0 1 plain;word 9");
        return x;
    }

    @Says("-10 less FAULT: nothing changes (THE TEXT stays, too).")
    static void behindAFaultNothingHasChanged(Due due) {
        Twins.refused(due, Promise04::busyWithAFault, SlangYears::land, -10 - 63);
    }

    @Says("-10 less FAULT: nothing changes (THE TEXT stays, too).")
    static void whatAFaultyTextToldIsNotInTheNextLand(Due due) {
        SlangYears x = busyWithAFault();
        x.land();
        x.clear();
        Lands.type(x, "place;place;word 0 0 0;");
        due.is("land()", x.land(), 3);
        due.is("TAKE", x.law(0), 6);
        due.is("START", x.law(3), 20);
        due.is("NEAR", x.near(0, 1), 0);
        due.is("PLAIN", x.word(0, 3), 0);
        due.is("WORDS", x.count(1), 1);
    }

    /** A land that tells nothing but three PLACES and a WORD, read behind another one. */
    private static SlangYears readAnew() {
        SlangYears x = Lands.busy();
        x.clear();
        Lands.type(x, "place;place;place;word 1 0 2;");
        x.land();
        return x;
    }

    @Says(READ_ANEW)
    static void placesThatAreNotToldAreGone(Due due) {
        SlangYears x = Lands.busy();
        x.clear();
        due.is("land() of nothing", x.land(), 0);
        due.is("PLACES", x.count(0), 0);
        due.is("near(0, 1)", x.near(0, 1), SlangYears.BAD);
    }

    @Says(READ_ANEW)
    static void wordsThatAreNotToldAreGone(Due due) {
        SlangYears x = readAnew();
        due.is("WORDS", x.count(1), 1);
        due.is("word(1, 0)", x.word(1, 0), SlangYears.BAD);
        due.is("PLAIN of the first of before", x.word(0, 3), 0);
    }

    @Says(READ_ANEW)
    static void aWordInThePlaceOfAPlainOneIsNotPlain(Due due) {
        SlangYears x = Lands.with("place;word 0 0 0 plain;");
        Lands.type(x, "place;word 0 0 0 plain;");
        x.land();
        for (int i = 0; i < 2; i++) {
            Lands.type(x, "place;word 0 0 0;");
            x.land();
            due.is("word(0, 3)", x.word(0, 3), 0);
        }
    }

    @Says(READ_ANEW)
    static void nearThatIsNotToldIs0(Due due) {
        SlangYears x = readAnew();
        due.is("near(0, 1)", x.near(0, 1), 0);
        due.is("near(1, 2)", x.near(1, 2), 0);
        due.is("near(2, 1)", x.near(2, 1), 0);
    }

    @Says(READ_ANEW)
    static void lawsThatAreNotToldAreAsAtFirst(Due due) {
        SlangYears x = readAnew();
        due.is("TAKE", x.law(0), 6);
        due.is("LEARN", x.law(1), 3);
        due.is("DROP", x.law(2), 5);
    }

    @Says(READ_ANEW)
    static void startThatIsNotToldIs20(Due due) {
        SlangYears x = readAnew();
        due.is("START", x.law(3), 20);
        due.is("SHARE", x.share(0, 2, 15), 200);
    }

    @Says("A LAND read anew: what is not told is as at first; YEAR 0")
    static void theYearIs0(Due due) {
        due.is("count(2)", readAnew().count(2), 0);
        SlangYears x = Lands.busyInYear99();
        x.land();
        due.is("count(2) behind YEAR 99", x.count(2), 0);
        due.is("go(99)", x.go(99), 99);
    }

    @Says(GONE)
    static void thereAreNoSongs(Due due) {
        SlangYears x = readAnew();
        due.is("count(3)", x.count(3), 0);
        x.go(7);
        due.is("part(0): songs of before are not heard", x.part(0), 0);
    }

    @Says(GONE)
    static void thereAreNoWritings(Due due) {
        SlangYears x = readAnew();
        due.is("count(4)", x.count(4), 0);
        due.is("span(0, 0)", x.span(0, 0), SlangYears.NO);
    }

    @Says(GONE)
    static void thereIsNoLetter(Due due) {
        SlangYears x = readAnew();
        x.go(20);
        due.is("could()", x.could(), SlangYears.STATE);
        due.is("forged(15, 0, 5, 0)", x.forged(15, 0, 5, 0), SlangYears.STATE);
    }

    @Says(GONE)
    static void image0IsGone(Due due) {
        due.is("back(0)", readAnew().back(0), SlangYears.STATE);
    }

    @Says(GONE)
    static void image1IsGone(Due due) {
        due.is("back(1)", readAnew().back(1), SlangYears.STATE);
    }

    @Says(READ_ANEW)
    static void sharesAndLifeBeginAnew(Due due) {
        SlangYears x = readAnew();
        due.is("share(0, 0, 15)", x.share(0, 0, 15), 0);
        due.is("share(0, 2, 15)", x.share(0, 2, 15), 200);
        due.is("PEAK: 600 / 7, by three", x.life(0, 0), 28);
        due.is("its YEAR", x.life(0, 1), 0);
    }

    @Says("LATE, THE LOT stay")
    static void lateStays(Due due) {
        due.is("law(4)", readAnew().law(4), 3);
    }

    @Says("LATE, THE LOT stay")
    static void theLotStays(Due due) {
        due.is("lot(1)", readAnew().lot(1), 88);
    }

    @Says("THE TRACE goes on, as behind back()")
    static void theTraceGoesOn(Due due) {
        SlangYears x = readAnew();
        due.is("trace()", x.trace(), 11101);
        x.rate(0, 0);
        due.is("trace() behind a rate more", x.trace(), 11102);
    }

    @Says("(those of YEAR 0 at once): SHARES of AGES 15 to 17 at its PLACE become 10 START at least")
    static void startToldBehindAWordCountsForItToo(Due due) {
        SlangYears x = Lands.with("place;word 1 0 0;start 7;");
        due.is("share(0, 0, 15)", x.share(0, 0, 15), 70);
    }

    @Says(NEAR)
    static void lawAndNearToldBehindAWordCountForItToo(Due due) {
        SlangYears x = Lands.with("place;place;word 1 0 0;start 30;near 0 1 5;law 9 0 0;");
        x.go(1);
        due.is("SHARE of 13: 9 * 128 / 10", x.share(0, 0, 13), 115);
        due.is("SHARE of 13 near: 9 * 64 / 10", x.share(0, 1, 13), 57);
    }
}
