/** Promises 9 to 15: years that go by, shares, songs, lives, print. */
public final class YearsTest {
    private static final Due DUE = new Due("YearsTest");
    /** Nobody takes up, learns or drops: those who have it only grow older. */
    private static final String STILL = "place;law 0 0 0;start 50;word 1 0 0;";

    public static void main(String[] args) {
        go();
        growingOlder();
        takingUp();
        heardAtMost();
        learning();
        dropping();
        plain();
        coining();
        anew();
        share();
        has();
        song();
        songsOfAYear();
        life();
        lifeOfASong();
        kept();
        printed();
        DUE.end();
    }

    private static void go() {
        SlangYears x = new SlangYears();
        DUE.is("go(0)", x.go(0), SlangYears.BAD);
        DUE.is("go(-1)", x.go(-1), SlangYears.BAD);
        DUE.is("go(100)", x.go(100), SlangYears.BAD);
        DUE.is("go(98) without a land", x.go(98), 98);
        DUE.is("go(2), one is left", x.go(2), 1);
        DUE.is("the last year", x.count(2), 99);
        DUE.is("go(1) in the last", x.go(1), SlangYears.STATE);
        DUE.is("go(0) in the last", x.go(0), SlangYears.BAD);
        x.anew();
        DUE.is("go(99)", x.go(99), 99);
    }

    private static void growingOlder() {
        SlangYears x = Due.with(STILL);
        DUE.is("nobody of 14", x.share(0, 0, 14), 0);
        DUE.is("those of 15", x.share(0, 0, 15), 500);
        DUE.is("those of 17", x.share(0, 0, 17), 500);
        DUE.is("nobody of 18", x.share(0, 0, 18), 0);
        x.go(1);
        DUE.is("nobody of 15 a year later", x.share(0, 0, 15), 0);
        DUE.is("those of 18 a year later", x.share(0, 0, 18), 500);
        x.go(51);
        DUE.is("those of 69", x.share(0, 0, 69), 500);
        DUE.is("those of 67", x.share(0, 0, 67), 500);
        x.go(2);
        DUE.is("the last of them", x.share(0, 0, 69), 500);
        x.go(1);
        DUE.is("all are gone", x.has(0, 0, 2), 0);
    }

    private static void takingUp() {
        SlangYears x = Due.with("place;place;place;near 0 1 5;law 6 0 0;start 30;word 0 0 0;");
        DUE.is("YOUNG at 0", x.has(0, 0, 0), 128);
        x.go(1);
        DUE.is("age 12", x.share(0, 0, 12), 0);
        DUE.is("age 13: 6 * 128 * 1000 * 1000 / 10^7", x.share(0, 0, 13), 76);
        DUE.is("age 15", x.share(0, 0, 15), 76);
        DUE.is("age 16: 300 and 6 * 128 * 700 * 1000 / 10^7", x.share(0, 0, 16), 353);
        DUE.is("age 18", x.share(0, 0, 18), 353);
        DUE.is("age 19", x.share(0, 0, 19), 76);
        DUE.is("age 20", x.share(0, 0, 20), 0);
        DUE.is("near: 6 * 64 * 1000 * 1000 / 10^7", x.share(0, 1, 13), 38);
        DUE.is("near, age 19", x.share(0, 1, 19), 38);
        DUE.is("near, age 20", x.share(0, 1, 20), 0);
        DUE.is("far", x.share(0, 2, 15), 0);
    }

    private static void heardAtMost() {
        SlangYears x = Due.with("place;place;place;near 0 1 9;near 0 2 9;law 9 0 0;start 1;word 0 0 0;");
        x.song(0, 0, 50);
        x.song(0, 1, 70);
        x.song(0, 2, 70);
        x.go(1);
        DUE.is("1000 at most: 9 * 1000 * 1000 * 1000 / 10^7", x.share(0, 0, 13), 900);
        DUE.is("500, 9 * 1000 * 500 * 1000 / 10^7", x.share(0, 0, 19), 950);
        DUE.is("1000 at most of the one near", x.share(0, 1, 13), 900);
    }

    private static void learning() {
        SlangYears x = Due.with("place;law 0 9 0;start 70;word 0 0 0;");
        x.go(2);
        DUE.is("no year two ahead", x.has(0, 0, 1), 0);
        x.go(1);
        DUE.is("9 * 300 * 1000 / 10^4 at 35", x.share(0, 0, 35), 270);
        DUE.is("at 50", x.share(0, 0, 50), 270);
        DUE.is("at 34", x.share(0, 0, 34), 0);
        DUE.is("at 51", x.share(0, 0, 51), 0);
        x.go(1);
        DUE.is("at 35 again", x.share(0, 0, 35), 270);
        DUE.is("270 and 9 * 300 * 730 / 10^4", x.share(0, 0, 36), 467);
        DUE.is("at 51 from 50", x.share(0, 0, 51), 270);
        DUE.is("PARENTS", x.has(0, 0, 1), 454);
    }

    private static void dropping() {
        SlangYears x = Due.with("place;law 0 9 5;start 70;word 0 0 0;");
        x.go(3);
        DUE.is("nothing to drop for", x.share(0, 0, 19), 700);
        x.go(1);
        DUE.is("700 less 5 * 270 * 700 / 10^4", x.share(0, 0, 19), 606);
        DUE.is("20 drops no more", x.share(0, 0, 20), 700);
        x = Due.with("place;law 1 9 9;start 99;word 0 0 0;");
        x.go(3);
        long young = x.has(0, 0, 0);
        long parents = x.has(0, 0, 1);
        DUE.is("PARENTS of year 0's YOUNG", parents, 9 * 424 * 1000 / 10000);
        x.go(1);
        long taken = young * 1000 * (1000 - parents) / 10000000;
        DUE.is("taken up, then dropped", x.share(0, 0, 13), taken - 9 * parents * taken / 10000);
    }

    private static void plain() {
        SlangYears x = Due.with("place;law 1 9 9;start 99;word 0 0 0 plain;");
        x.go(3);
        long young = x.has(0, 0, 0);
        DUE.is("PARENTS learn a PLAIN one too", x.has(0, 0, 1), 381);
        x.go(1);
        DUE.is("taken up in spite of PARENTS", x.share(0, 0, 13), young * 1000 * 1000 / 10000000);
    }

    private static void coining() {
        SlangYears x = Due.with("place;place;law 9 9 0;start 33;word 0 2 1;word 0 90 0;");
        x.go(1);
        DUE.is("a year ahead", x.share(0, 1, 16), 0);
        x.go(1);
        DUE.is("in its year at 15", x.share(0, 1, 15), 330);
        DUE.is("in its year at 17", x.share(0, 1, 17), 330);
        DUE.is("in its year at 14", x.share(0, 1, 14), 0);
        DUE.is("in its year at 18", x.share(0, 1, 18), 0);
        DUE.is("not at another place", x.share(0, 0, 16), 0);
        DUE.is("not another word", x.share(1, 0, 16), 0);
        x.go(88);
        DUE.is("in year 90", x.share(1, 0, 16), 330);
        x.go(1);
        DUE.is("coined only once: 9 * 141 * 1000 * 1000 / 10^7", x.share(1, 0, 15), 126);
    }

    private static void anew() {
        SlangYears x = Due.with(STILL);
        x.lot(5);
        x.late(7);
        x.go(3);
        x.song(0, 0, 90);
        x.writing(1, 20, 0);
        x.letter(1, 0, 15, 0);
        x.keep(1);
        x.type(59, 1);
        DUE.is("anew()", x.anew(), 3);
        DUE.is("YEAR 0", x.count(2), 0);
        DUE.is("no songs", x.count(3), 0);
        DUE.is("the land stays", x.law(3), 50);
        DUE.is("writings stay", x.count(4), 1);
        DUE.is("the text stays", x.count(5), 1);
        DUE.is("the letter stays", x.could(), 0);
        DUE.is("LATE stays", x.law(4), 7);
        DUE.is("SHARES", x.share(0, 0, 13), 0);
        DUE.is("SHARES are coined", x.share(0, 0, 15), 500);
        DUE.is("LIFE is new", x.life(0, 0), 214);
        DUE.is("the song is forgotten", x.go(3), 3);
        DUE.is("as without the song", x.share(0, 0, 13), 0);
        DUE.is("the image stays", x.back(1), 3);
        DUE.is("its song", x.share(0, 0, 13), 900);
        DUE.is("anew() again", x.anew(), 3);
        DUE.is("anew() in year 0", x.anew(), 0);
        DUE.is("the lot stays", x.lot(1), 5);
    }

    private static void share() {
        SlangYears x = Due.with(STILL);
        DUE.is("age 9", x.share(0, 0, 9), SlangYears.BAD);
        DUE.is("age 10", x.share(0, 0, 10), 0);
        DUE.is("age 69", x.share(0, 0, 69), 0);
        DUE.is("age 70", x.share(0, 0, 70), SlangYears.BAD);
        DUE.is("no such place", x.share(0, 1, 15), SlangYears.BAD);
        DUE.is("place -1", x.share(0, -1, 15), SlangYears.BAD);
        DUE.is("no such word", x.share(1, 0, 15), SlangYears.BAD);
        DUE.is("word -1", x.share(-1, 0, 15), SlangYears.BAD);
    }

    private static void has() {
        SlangYears x = Due.with("place;place;place;law 0 0 0;start 50;word 1 0 2;");
        DUE.is("YOUNG: 1500 / 7", x.has(0, 2, 0), 214);
        DUE.is("ALL: 1500 / 60", x.has(0, 2, 2), 25);
        DUE.is("PARENTS", x.has(0, 2, 1), 0);
        DUE.is("MEAN of YOUNG: 214 / 3", x.has(0, -1, 0), 71);
        DUE.is("MEAN of ALL: 25 / 3", x.has(0, -1, 2), 8);
        x.go(19);
        DUE.is("PARENTS: 35 and 36", x.has(0, 2, 1), 62);
        DUE.is("MEAN of PARENTS", x.has(0, -1, 1), 20);
        x.go(15);
        DUE.is("PARENTS: 49, 50", x.has(0, 2, 1), 62);
        DUE.is("who 3", x.has(0, 0, 3), SlangYears.BAD);
        DUE.is("who -1", x.has(0, 0, -1), SlangYears.BAD);
        DUE.is("place 3", x.has(0, 3, 0), SlangYears.BAD);
        DUE.is("place -2", x.has(0, -2, 0), SlangYears.BAD);
        DUE.is("word 1", x.has(1, 0, 0), SlangYears.BAD);
        DUE.is("no places", new SlangYears().has(0, -1, 0), SlangYears.BAD);
        x = Due.with("place;place;law 0 0 0;start 1;word 1 0 0;");
        x.song(0, 0, 50);
        x.song(0, 1, 25);
        DUE.is("MEAN: each rounded down, added", x.has(0, -1, 2), (3500 / 60 + 1750 / 60) / 2);
        DUE.is("13 to 19", x.has(0, 1, 0), 250);
    }

    private static void song() {
        SlangYears x = Due.with("place;place;law 0 0 0;start 50;word 1 0 0;word 1 1 0;");
        DUE.is("g 0", x.song(0, 0, 0), SlangYears.BAD);
        DUE.is("g 100", x.song(0, 0, 100), SlangYears.BAD);
        DUE.is("no such word", x.song(2, 0, 5), SlangYears.BAD);
        DUE.is("word -1", x.song(-1, 0, 5), SlangYears.BAD);
        DUE.is("no such place", x.song(0, 2, 5), SlangYears.BAD);
        DUE.is("place -1", x.song(0, -1, 5), SlangYears.BAD);
        DUE.is("not COINED", x.song(1, 0, 5), SlangYears.STATE);
        DUE.is("BAD ahead of STATE", x.song(1, 0, 0), SlangYears.BAD);
        DUE.is("a song", x.song(0, 0, 40), 1);
        DUE.is("age 12", x.share(0, 0, 12), 0);
        DUE.is("age 13", x.share(0, 0, 13), 400);
        DUE.is("age 15 has more", x.share(0, 0, 15), 500);
        DUE.is("age 19", x.share(0, 0, 19), 400);
        DUE.is("age 20", x.share(0, 0, 20), 0);
        DUE.is("not at the other place", x.share(0, 1, 15), 0);
        DUE.is("a lesser song", x.song(0, 0, 1), 2);
        DUE.is("changes nothing", x.share(0, 0, 13), 400);
        for (int i = 3; i <= 10; i++) {
            DUE.is("more songs", x.song(0, 1, 99), i);
        }
        DUE.is("an eleventh", x.song(0, 0, 99), SlangYears.FULL);
        DUE.is("STATE ahead of FULL", x.song(1, 0, 99), SlangYears.STATE);
        DUE.is("BAD ahead of FULL", x.song(0, 0, 100), SlangYears.BAD);
        DUE.is("refused", x.share(0, 0, 13), 400);
        DUE.is("count(3)", x.count(3), 10);
    }

    private static void songsOfAYear() {
        SlangYears x = Due.with("place;place;near 0 1 5;law 6 0 0;start 1;word 1 0 0;word 2 0 0;");
        x.song(0, 0, 50);
        x.go(1);
        DUE.is("heard from the song: 6 * 500 * 1000 * 1000 / 10^7", x.share(0, 0, 13), 300);
        DUE.is("heard near: 6 * 250 * 1000 * 1000 / 10^7", x.share(0, 1, 13), 150);
        DUE.is("not the other word: 30 / 7 = 4", x.share(1, 0, 13), 2);
        x = Due.with("place;law 0 9 0;start 1;word 1 0 0;");
        x.song(0, 0, 50);
        x.go(3);
        DUE.is("two years ahead counts the song", x.share(0, 0, 40), 450);
    }

    private static void life() {
        SlangYears x = Due.with("place;law 0 0 0;start 50;word 1 2 0;");
        DUE.is("what 4", x.life(0, 4), SlangYears.BAD);
        DUE.is("what -1", x.life(0, -1), SlangYears.BAD);
        DUE.is("no such word", x.life(1, 0), SlangYears.BAD);
        DUE.is("not COINED", x.life(0, 0), SlangYears.STATE);
        DUE.is("not COINED, KEPT", x.life(0, 3), SlangYears.STATE);
        DUE.is("BAD ahead of STATE", x.life(0, 4), SlangYears.BAD);
        x.go(2);
        DUE.is("PEAK", x.life(0, 0), 214);
        DUE.is("its YEAR", x.life(0, 1), 2);
        DUE.is("not OVER", x.life(0, 2), SlangYears.NONE);
        x.go(3);
        DUE.is("142 is not below 100", x.life(0, 2), SlangYears.NONE);
        DUE.is("the first YEAR of the PEAK", x.life(0, 1), 2);
        x.go(1);
        DUE.is("71 is below 100", x.life(0, 2), 6);
        x.go(60);
        DUE.is("the first such", x.life(0, 2), 6);
        x.anew();
        x.go(4);
        DUE.is("only up to NOW", x.life(0, 2), SlangYears.NONE);
    }

    private static void lifeOfASong() {
        SlangYears x = Due.with("place;law 0 0 0;start 1;word 1 0 0;");
        x.song(0, 0, 14);
        DUE.is("a song is in its YEAR's begin", x.life(0, 0), 140);
        x.go(2);
        DUE.is("700 / 7", x.has(0, 0, 0), 100);
        DUE.is("100 is not below 100", x.life(0, 2), SlangYears.NONE);
        x.go(1);
        DUE.is("80 is", x.life(0, 2), 3);
        x.song(0, 0, 14);
        DUE.is("a song makes it as high again: the first YEAR", x.life(0, 1), 0);
        DUE.is("NOW is not over any more", x.life(0, 2), SlangYears.NONE);
        x.song(0, 0, 15);
        DUE.is("a higher PEAK", x.life(0, 0), 150);
        DUE.is("its YEAR", x.life(0, 1), 3);
    }

    private static void kept() {
        SlangYears x = Due.with("place;place;law 0 0 0;start 50;word 1 0 0;");
        DUE.is("the least of several", x.life(0, 3), 15);
        x.go(10);
        DUE.is("they grow older", x.life(0, 3), 25);
        x.song(0, 1, 30);
        DUE.is("less is not kept", x.life(0, 3), 25);
        x.song(0, 1, 51);
        DUE.is("more is", x.life(0, 3), 13);
        x = Due.with("place;place;law 0 0 0;start 50;word 1 0 0;");
        x.song(0, 1, 1);
        x.go(2);
        x.song(0, 1, 1);
        DUE.is("places added", x.life(0, 3), 17);
        x.go(97);
        DUE.is("nobody at all: the least", x.life(0, 3), 10);
    }

    private static void printed() {
        SlangYears x = Due.with("place;law 0 0 0;start 54;word 1 5 0;");
        DUE.is("not COINED", x.printed(0, 0), SlangYears.NONE);
        x.go(24);
        DUE.is("67 is not enough", x.printed(0, 0), SlangYears.NONE);
        DUE.is("67 is not enough for SAID", x.printed(0, 1), SlangYears.NONE);
        x.go(1);
        DUE.is("101 is; it is late", x.printed(0, 0), 27);
        DUE.is("SAID", x.printed(0, 1), 22);
        x.late(0);
        DUE.is("not late", x.printed(0, 0), 25);
        DUE.is("SAID", x.printed(0, 1), 20);
        x.go(50);
        DUE.is("the first YEAR", x.printed(0, 0), 25);
        DUE.is("what 2", x.printed(0, 2), SlangYears.BAD);
        DUE.is("what -1", x.printed(0, -1), SlangYears.BAD);
        DUE.is("word 1", x.printed(1, 0), SlangYears.BAD);
        DUE.is("word -1", x.printed(-1, 0), SlangYears.BAD);
        x = Due.with("place;law 0 0 0;start 53;word 1 0 0;");
        x.go(99);
        DUE.is("99 is never enough", x.printed(0, 0), SlangYears.NONE);
        x = Due.with("place;law 0 0 0;start 1;word 1 0 0;");
        x.song(0, 0, 40);
        x.go(30);
        DUE.is("four of 400 are 100", x.printed(0, 0), 21);
        x = Due.with("place;place;law 0 0 0;start 99;word 1 0 0;");
        x.go(99);
        DUE.is("185 / 2 is a MEAN of 92", x.printed(0, 0), SlangYears.NONE);
    }
}
