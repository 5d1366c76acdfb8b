import java.nio.charset.StandardCharsets;

/** Long runs of calls: the class and the Model have to answer the same. The runs are the same each time. */
public final class ModelTest {
    private static final int RUNS = 400;
    private static final int TEXTS = 40000;
    private static final int CALLS = 512;
    private static final int[] EDGES = {
        -1, 0, 1, 2, 3, 4, 5, 6, 7, 8, 9, 10, 11, 30, 31, 69, 70, 90, 98, 99, 100, 101, -2, -9,
        Integer.MAX_VALUE, Integer.MIN_VALUE, 1 << 30, -1000000, 255, 256, 65536
    };
    private static final Due DUE = new Due("ModelTest");

    private static long seed;
    private static SlangYears x;
    private static Model model;
    private static int calls;
    private static String run;

    public static void main(String[] args) {
        for (int r = 0; r < RUNS; r++) {
            seed = 1000003L * r + 17;
            run = "run " + r;
            x = new SlangYears();
            model = new Model();
            calls = 0;
            boolean wild = r % 10 == 9;
            while (calls < CALLS) {
                if (calls == 0 && !wild || pick(120) == 0) {
                    typeAndRead(pick(8) == 0 ? spoilt(landText()) : landText());
                }
                call(wild);
            }
        }
        for (int t = 0; t < TEXTS; t++) {
            seed = 7368787L * t + 5;
            run = "text " + t;
            x = new SlangYears();
            model = new Model();
            typeAndRead(spoilt(landText()));
        }
        DUE.end();
    }

    /** A number from 0 on, below n. */
    private static int pick(int n) {
        seed = seed * 6364136223846793005L + 1442695040888963407L;
        return (int) ((seed >>> 33) % n);
    }

    private static int range(int least, int most) {
        return least + pick(most - least + 1);
    }

    private static String landText() {
        StringBuilder text = new StringBuilder();
        int places = pick(20) == 0 ? 0 : range(1, 3);
        for (int p = 0; p < places; p++) {
            item(text, "place");
        }
        for (int i = pick(4); i > 0 && places > 1; i--) {
            int a = pick(places);
            item(text, "near", a, (a + range(1, places - 1)) % places, range(0, 9));
        }
        if (pick(4) != 0) {
            item(text, "law", range(0, 9), range(0, 9), range(0, 9));
        }
        if (pick(3) != 0) {
            item(text, "start", range(1, 99));
        }
        int words = places == 0 ? 0 : pick(5) == 0 ? pick(6) : range(2, 5);
        for (int w = 0; w < words; w++) {
            item(text, pick(3) == 0 ? "word plain" : "word", pick(4), pick(3) == 0 ? pick(91) : pick(8), pick(places));
        }
        return text.toString();
    }

    private static void item(StringBuilder text, String head, int... numbers) {
        boolean plain = head.endsWith(" plain");
        text.append(blanks(0)).append(plain ? "word" : head);
        for (int i = 0; i < numbers.length; i++) {
            text.append(blanks(i == 0 ? 0 : 1)).append(numbers[i]);
        }
        text.append(plain ? blanks(0) + "plain" : "").append(blanks(0)).append(';');
    }

    private static String blanks(int least) {
        return " ".repeat(least + (pick(5) == 0 ? pick(2) : 0));
    }

    /** The text with a byte or two changed, left out or put in, or with its end cut off. */
    private static String spoilt(String text) {
        StringBuilder b = new StringBuilder(text);
        String signs = "; 0123456789placewordnearlawstartplainAZ~\u00e4\0\n";
        for (int i = range(1, 2); i > 0 && b.length() > 0; i--) {
            int at = pick(b.length());
            char sign = signs.charAt(pick(signs.length()));
            switch (pick(6)) {
                case 0: b.setCharAt(at, sign); break;
                case 1: b.insert(at, sign); break;
                case 2: b.deleteCharAt(at); break;
                case 3: b.setLength(at); break;
                case 4: b.append(landText()); break;
                default: b.insert(at, pick(120) + " "); break;
            }
        }
        return b.toString();
    }

    private static void typeAndRead(String text) {
        if (pick(6) != 0) {
            is("clear()", x.clear(), model.clear());
        }
        byte[] bytes = text.getBytes(StandardCharsets.ISO_8859_1);
        for (int from = 0; from < bytes.length; from += 8) {
            int n = Math.min(8, bytes.length - from);
            long v = Lands.packed(bytes, from, n);
            is("type(" + v + ", " + n + ")", x.type(v, n), model.type(v, n));
        }
        is("land() of '" + text + "'", x.land(), model.land());
        counts();
    }

    private static void counts() {
        for (int what = 0; what <= 5; what++) {
            is("count(" + what + ")", x.count(what), model.count(what));
        }
        for (int what = 0; what <= 4; what++) {
            is("law(" + what + ")", x.law(what), model.law(what));
        }
    }

    private static void is(String call, long got, long want) {
        calls++;
        DUE.is(run + ", call " + calls + ": " + call, got, want);
    }

    private static int number(boolean wild, int least, int most) {
        return wild || pick(40) == 0 ? EDGES[pick(EDGES.length)] : range(least, most);
    }

    private static int aWord(boolean wild) {
        return number(wild, 0, Math.max(0, model.count(1) - 1));
    }

    private static int aPlace(boolean wild) {
        return number(wild, 0, Math.max(0, model.count(0) - 1));
    }

    private static int anAge(boolean wild) {
        return pick(2) == 0 ? number(wild, 13, 19) : number(wild, 10, 69);
    }

    private static void call(boolean wild) {
        int group = pick(10);
        if (group < 4) {
            yearCall(wild);
        } else if (group < 6) {
            pageCall(wild);
        } else if (group < 8) {
            deedCall(wild);
        } else {
            kindCall(wild);
        }
    }

    private static void yearCall(boolean wild) {
        int w = aWord(wild);
        int p = aPlace(wild);
        int n = pick(5) == 0 ? number(wild, 1, 30) : number(wild, 1, 3);
        int what = number(wild, 0, 3);
        int age = anAge(wild);
        switch (pick(12)) {
            case 0: is("go(" + n + ")", x.go(n), model.go(n)); break;
            case 1: if (pick(5) == 0) { is("anew()", x.anew(), model.anew()); } break;
            case 2: is("has(" + w + ", -1, " + what + ")", x.has(w, -1, what), model.has(w, -1, what)); break;
            case 3: is("has(" + w + ", " + p + ", " + what + ")", x.has(w, p, what), model.has(w, p, what)); break;
            case 4: song(w, p, number(wild, 1, 99)); break;
            case 5: is("life(" + w + ", " + what + ")", x.life(w, what), model.life(w, what)); break;
            case 6: is("printed(" + w + ", " + what + ")", x.printed(w, what), model.printed(w, what)); break;
            case 7: is("word(" + w + ", " + what + ")", x.word(w, what), model.word(w, what)); break;
            case 8: is("word(" + w + ", 4)", x.word(w, 4), model.word(w, 4)); break;
            case 9: is("near(" + p + ", " + what + ")", x.near(p, what), model.near(p, what)); break;
            case 10: is("late(" + age + ")", x.late(age), model.late(age)); break;
            default: is("share(" + w + ", " + p + ", " + age + ")", x.share(w, p, age), model.share(w, p, age)); break;
        }
    }

    private static void song(int w, int p, int g) {
        if (pick(3) == 0) {
            is("song(" + w + ", " + p + ", " + g + ")", x.song(w, p, g), model.song(w, p, g));
        }
    }

    private static void pageCall(boolean wild) {
        int on = number(wild, 0, 31) & (pick(3) == 0 ? -1 : 1 << pick(5));
        int not = number(wild, 0, 31) & number(wild, 0, 31);
        int age = anAge(wild);
        int until = pick(6) == 0 ? anAge(wild) : Math.max(age, anAge(wild));
        int p = aPlace(wild);
        int what = number(wild, 0, 1);
        String page = on + ", " + not + ", ";
        switch (pick(6)) {
            case 0:
            case 1:
                is("old(" + page + age + ", " + until + ", " + what + ")",
                    x.old(on, not, age, until, what), model.old(on, not, age, until, what));
                break;
            case 2: is("likeliest(" + page + what + ")", x.likeliest(on, not, what), model.likeliest(on, not, what)); break;
            case 3: letter(on | not, number(wild, 0, model.count(2)), age, p); break;
            case 4: is("could()", x.could(), model.could()); break;
            default: forged(age, p, number(wild, 0, 10), what); break;
        }
    }

    private static void letter(int words, int year, int age, int p) {
        String call = "letter(" + words + ", " + year + ", " + age + ", " + p + ")";
        is(call, x.letter(words, year, age, p), model.letter(words, year, age, p));
    }

    private static void forged(int age, int p, int f, int what) {
        String call = "forged(" + age + ", " + p + ", " + f + ", " + what + ")";
        is(call, x.forged(age, p, f, what), model.forged(age, p, f, what));
    }

    private static void deedCall(boolean wild) {
        int w = aWord(wild);
        int p = aPlace(wild);
        int age = anAge(wild);
        int year = number(wild, 0, 99);
        int what = number(wild, 0, 3);
        switch (pick(8)) {
            case 0: if (pick(3) == 0) { is("kills(" + w + ")", x.kills(w), model.kills(w)); } break;
            case 1: is("part(" + w + ")", x.part(w), model.part(w)); break;
            case 2:
                is("writing(" + year + ", " + age + ", " + w + ")", x.writing(year, age, w), model.writing(year, age, w));
                break;
            case 3: is("span(" + w + ", " + what + ")", x.span(w, what), model.span(w, what)); break;
            case 4: is("wants(" + what + ")", x.wants(what), model.wants(what)); break;
            case 5: is("lot(" + year + ")", x.lot(year), model.lot(year)); break;
            default: is("drawn(" + age + ", " + p + ")", x.drawn(age, p), model.drawn(age, p)); break;
        }
    }

    private static void kindCall(boolean wild) {
        int w = aWord(wild);
        int kind = number(wild, 0, 5);
        int image = number(wild, 0, 1);
        switch (pick(8)) {
            case 0: is("keep(" + image + ")", x.keep(image), model.keep(image)); break;
            case 1: is("back(" + image + ")", x.back(image), model.back(image)); break;
            case 2: is("count(" + kind + ")", x.count(kind), model.count(kind)); break;
            case 3: is("law(" + kind + ")", x.law(kind), model.law(kind)); break;
            case 4: wildText(wild); break;
            case 5: is("trace()", x.trace(), model.trace()); break;
            default: is("rate(" + kind + ", " + w + ")", x.rate(kind, w), model.rate(kind, w)); break;
        }
    }

    private static void wildText(boolean wild) {
        if (wild) {
            int n = number(true, 0, 0);
            is("type(" + seed + ", " + n + ")", x.type(seed, n), model.type(seed, n));
            is("land()", x.land(), model.land());
        }
    }
}
