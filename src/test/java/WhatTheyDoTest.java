/** Promises 21 to 27: what outsiders and songs do, writings, wants, people drawn. */
public final class WhatTheyDoTest {
    private static final Due DUE = new Due("WhatTheyDoTest");

    public static void main(String[] args) {
        killsOfAStillWord();
        killsOfALearntWord();
        killsWithSongs();
        part();
        writing();
        span();
        wants();
        drawn();
        lot();
        DUE.end();
    }

    private static void killsOfAStillWord() {
        SlangYears x = Due.with("place;law 0 9 0;start 50;word 1 0 0;word 1 3 0;");
        DUE.is("nobody drops it", x.kills(0), 0);
        DUE.is("not COINED", x.kills(1), SlangYears.NO);
        DUE.is("word 2", x.kills(2), SlangYears.NO);
        DUE.is("word -1", x.kills(-1), SlangYears.NO);
        x.go(3);
        DUE.is("COINED", x.kills(1), 0);
        DUE.is("no words", new SlangYears().kills(0), SlangYears.NO);
    }

    private static void killsOfALearntWord() {
        SlangYears x = Due.with("place;law 9 9 9;start 99;word 1 2 0;word 1 2 0 plain;");
        x.go(2);
        int kills = x.kills(0);
        DUE.is("what is to come counts, NOW does not", x.count(2), 2);
        x.go(97);
        int over = x.life(0, 2);
        SlangYears unlearnt = Due.with("place;law 9 0 9;start 99;word 1 2 0;word 1 2 0 plain;");
        unlearnt.go(99);
        int later = unlearnt.life(0, 2);
        DUE.is("it is over", over == SlangYears.NONE ? 0 : 1, 1);
        DUE.is("by how many years sooner", kills, (later == SlangYears.NONE ? 99 : later) - over);
        DUE.is("the same in year 99", x.kills(0), kills);
        DUE.is("LEARN stays", x.law(1), 9);
        DUE.is("LIFE stays", x.life(0, 2), over);
        DUE.is("PLAIN is never over", x.life(1, 2), SlangYears.NONE);
        DUE.is("PLAIN: 99 less 99", x.kills(1), 0);
    }

    private static void killsWithSongs() {
        String text = "place;law 0 9 9;start 1;word 1 0 0;";
        SlangYears x = Due.with(text);
        DUE.is("never high", x.kills(0), 0);
        x.song(0, 0, 80);
        int kills = x.kills(0);
        SlangYears unlearnt = Due.with("place;law 0 0 9;start 1;word 1 0 0;");
        unlearnt.song(0, 0, 80);
        unlearnt.go(99);
        x.go(99);
        DUE.is("the songs count", kills, unlearnt.life(0, 2) - x.life(0, 2));
        DUE.is("that is more than none", kills > 0 ? 1 : 0, 1);
    }

    private static void part() {
        SlangYears x = Due.with("place;place;law 0 0 0;start 50;word 1 0 0;word 1 5 1;");
        DUE.is("no songs", x.part(0), 0);
        DUE.is("not COINED", x.part(1), 0);
        DUE.is("word 2", x.part(2), SlangYears.NO);
        DUE.is("word -1", x.part(-1), SlangYears.NO);
        x.go(1);
        x.song(0, 1, 40);
        DUE.is("(214 + 400) / 2 less 214 / 2", x.part(0), 307 - 107);
        DUE.is("LIFE stays", x.life(0, 0), 307);
        DUE.is("SONGS stay", x.count(3), 1);
        x.go(4);
        x.song(1, 1, 60);
        DUE.is("the other's", x.part(1), 300 - (5 * 3 * 100 / 7) / 2);
        DUE.is("the first's stays", x.part(0), 200);
        x = Due.with("place;law 6 0 0;start 50;word 1 0 0;");
        x.go(3);
        int peak = x.life(0, 0);
        x.song(0, 0, 99);
        DUE.is("only up to NOW", x.part(0), 990 - peak);
    }

    private static void writing() {
        SlangYears x = Due.with("place;word 1 80 0;");
        DUE.is("year 100", x.writing(100, 20, 0), SlangYears.BAD);
        DUE.is("year -1", x.writing(-1, 20, 0), SlangYears.BAD);
        DUE.is("age 9", x.writing(5, 9, 0), SlangYears.BAD);
        DUE.is("age 70", x.writing(5, 70, 0), SlangYears.BAD);
        DUE.is("word 1", x.writing(5, 20, 1), SlangYears.BAD);
        DUE.is("word -1", x.writing(5, 20, -1), SlangYears.BAD);
        DUE.is("none yet", x.count(4), 0);
        DUE.is("the least", x.writing(0, 10, 0), 1);
        DUE.is("the greatest", x.writing(99, 69, 0), 2);
        for (int i = 3; i <= 40; i++) {
            DUE.is("more", x.writing(50, 30, 0), i);
        }
        DUE.is("a 41st", x.writing(50, 30, 0), SlangYears.FULL);
        DUE.is("BAD ahead of FULL", x.writing(50, 30, 1), SlangYears.BAD);
        DUE.is("count(4)", x.count(4), 40);
    }

    private static void span() {
        SlangYears x = Due.with("place;word 1 0 0;word 1 0 0;");
        DUE.is("none", x.span(0, 0), SlangYears.NO);
        x.writing(0, 69, 0);
        DUE.is("the least there may be", x.span(0, 0), -53);
        DUE.is("is the greatest as well", x.span(0, 1), -53);
        DUE.is("mean, upper", x.span(0, 2), -53);
        DUE.is("mean, lower", x.span(0, 3), 1);
        DUE.is("none of the other", x.span(1, 0), SlangYears.NO);
        x.writing(99, 10, 1);
        DUE.is("the greatest there may be", x.span(1, 1), 105);
        DUE.is("is the least as well", x.span(1, 0), 105);
        x.writing(30, 50, 0);
        x.writing(30, 51, 0);
        DUE.is("the least", x.span(0, 0), -53);
        DUE.is("the greatest", x.span(0, 1), -4);
        DUE.is("-62 / 3, upper", x.span(0, 2), -62);
        DUE.is("-62 / 3, lower", x.span(0, 3), 3);
        x.writing(30, 46, 0);
        DUE.is("-62 / 4, upper", x.span(0, 2), -31);
        DUE.is("-62 / 4, lower", x.span(0, 3), 2);
        x.writing(62, 16, 0);
        DUE.is("0 / 5, upper", x.span(0, 2), 0);
        DUE.is("0 / 5, lower", x.span(0, 3), 1);
        DUE.is("what 4", x.span(0, 4), SlangYears.NO);
        DUE.is("what -1", x.span(0, -1), SlangYears.NO);
        DUE.is("word 2", x.span(2, 0), SlangYears.NO);
        DUE.is("word -1", x.span(-1, 0), SlangYears.NO);
    }

    private static void wants() {
        SlangYears x = Due.with("place;law 0 0 0;start 1;word 1 0 0;word 2 0 0;word 2 0 0;");
        DUE.is("no words of it", x.wants(0), 1);
        DUE.is("no words of the last", x.wants(3), 1);
        DUE.is("too few", x.wants(1), 1);
        x.song(0, 0, 20);
        DUE.is("200 is enough", x.wants(1), 0);
        DUE.is("of that meaning only", x.wants(2), 1);
        x.song(2, 0, 30);
        DUE.is("one word of it is enough", x.wants(2), 0);
        x.go(1);
        DUE.is("171 NOW", x.wants(1), 1);
        DUE.is("257 NOW", x.wants(2), 0);
        DUE.is("wants(4)", x.wants(4), SlangYears.BAD);
        DUE.is("wants(-1)", x.wants(-1), SlangYears.BAD);
        DUE.is("without a land", new SlangYears().wants(0), 1);
        x = Due.with("place;place;law 0 0 0;start 1;word 1 0 0;");
        x.song(0, 0, 39);
        DUE.is("a MEAN of 195", x.wants(1), 1);
        x.song(0, 0, 40);
        DUE.is("a MEAN of 200", x.wants(1), 0);
    }

    private static void drawn() {
        SlangYears x = Due.with("place;law 0 0 0;start 60;word 1 0 0;word 1 7 0;word 1 0 0;");
        int lot = 1;
        for (int i = 0; i < 60; i++) {
            int bits = 0;
            for (int w = 0; w < 3; w++) {
                lot = lot * 1103515245 + 12345;
                long upper = (lot & 0xffffffffL) / 65536;
                if (upper % 1000 < (w == 1 ? 0 : 600)) {
                    bits |= 1 << w;
                }
            }
            DUE.is("drawn, time " + i, x.drawn(15 + i % 3, 0), bits);
        }
        DUE.is("age 9", x.drawn(9, 0), SlangYears.BAD);
        DUE.is("age 70", x.drawn(70, 0), SlangYears.BAD);
        DUE.is("place 1", x.drawn(15, 1), SlangYears.BAD);
        DUE.is("place -1", x.drawn(15, -1), SlangYears.BAD);
        DUE.is("the lot behind it", x.lot(0), lot);
        x = Due.with("place;");
        DUE.is("no words", x.drawn(10, 0), 0);
        DUE.is("the lot stays", x.lot(0), 1);
        // 0 becomes 12345, which draws 0
        x = Due.with("place;start 1;word 1 0 0;");
        x.lot(0);
        DUE.is("0 is below 10", x.drawn(15, 0), 1);
        x.lot(0);
        DUE.is("0 is not below 0", x.drawn(18, 0), 0);
        DUE.is("nobody without places", new SlangYears().drawn(15, 0), SlangYears.BAD);
    }

    private static void lot() {
        SlangYears x = new SlangYears();
        DUE.is("lot(-5)", x.lot(-5), 1);
        DUE.is("lot(greatest)", x.lot(Integer.MAX_VALUE), -5);
        DUE.is("lot(least)", x.lot(Integer.MIN_VALUE), Integer.MAX_VALUE);
        DUE.is("lot(0)", x.lot(0), Integer.MIN_VALUE);
    }
}
