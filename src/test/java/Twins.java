import java.util.function.Supplier;
import java.util.function.ToLongFunction;

/** Two objects that were made alike: one of them is asked a call more, and has to stay like the other. */
final class Twins {
    private final Due due;
    private final String of;
    private final SlangYears x;
    private final SlangYears y;

    private Twins(Due due, String of, SlangYears x, SlangYears y) {
        this.due = due;
        this.of = of;
        this.x = x;
        this.y = y;
    }

    /** A call that is refused: what it answers, and that nothing changes by it. */
    static void refused(Due due, Supplier<SlangYears> made, ToLongFunction<SlangYears> call, long answer) {
        SlangYears x = made.get();
        due.is("the refused call", call.applyAsLong(x), answer);
        alike(due, "behind the refused call, ", x, made.get());
    }

    /** Whether two objects answer everything alike; they are spent then. */
    static void alike(Due due, String of, SlangYears x, SlangYears y) {
        Twins twins = new Twins(due, of, x, y);
        twins.numbers();
        twins.words();
        twins.pages();
        twins.lots();
        twins.yearsToCome();
        twins.image(0);
        twins.image(1);
        twins.texts();
    }

    private void is(String call, ToLongFunction<SlangYears> asked) {
        due.is(of + call, asked.applyAsLong(x), asked.applyAsLong(y));
    }

    private void numbers() {
        for (int i = 0; i <= 5; i++) {
            int what = i;
            is("count(" + what + ")", z -> z.count(what));
            is("law(" + what + ")", z -> z.law(what));
        }
        is("near(0, 1)", z -> z.near(0, 1));
        is("near(2, 0)", z -> z.near(2, 0));
        is("near(1, 2)", z -> z.near(1, 2));
        is("trace()", SlangYears::trace);
    }

    private void words() {
        for (int i = 0; i < 4; i++) {
            int w = i;
            for (int k = 0; k <= 4; k++) {
                int what = k;
                is("word(" + w + ", " + what + ")", z -> z.word(w, what));
                is("life(" + w + ", " + what + ")", z -> z.life(w, what));
                is("span(" + w + ", " + what + ")", z -> z.span(w, what));
            }
            is("printed(" + w + ", 0)", z -> z.printed(w, 0));
            is("kills(" + w + ")", z -> z.kills(w));
            is("part(" + w + ")", z -> z.part(w));
            shares(w);
        }
        is("word(4, 0)", z -> z.word(4, 0));
    }

    private void shares(int w) {
        for (int k = 0; k <= 2; k++) {
            int p = k;
            is("has(" + w + ", " + p + ", 1)", z -> z.has(w, p, 1));
            is("has(" + w + ", " + p + ", 2)", z -> z.has(w, p, 2));
            is("share(" + w + ", " + p + ", 13)", z -> z.share(w, p, 13));
            is("share(" + w + ", " + p + ", 17)", z -> z.share(w, p, 17));
        }
    }

    private void pages() {
        is("old(1, 2, 13, 20, 0)", z -> z.old(1, 2, 13, 20, 0));
        is("likeliest(1, 4, 0)", z -> z.likeliest(1, 4, 0));
        is("could()", SlangYears::could);
        is("forged(18, 1, 4, 0)", z -> z.forged(18, 1, 4, 0));
        is("forged(18, 1, 4, 1)", z -> z.forged(18, 1, 4, 1));
        is("wants(1)", z -> z.wants(1));
    }

    private void lots() {
        is("drawn(17, 0)", z -> z.drawn(17, 0));
        is("lot(5)", z -> z.lot(5));
    }

    private void yearsToCome() {
        is("go(3)", z -> z.go(3));
        is("share(0, 1, 16)", z -> z.share(0, 1, 16));
        is("life(0, 0)", z -> z.life(0, 0));
    }

    private void image(int image) {
        String behind = "behind back(" + image + "), ";
        is("back(" + image + ")", z -> z.back(image));
        is(behind + "count(2)", z -> z.count(2));
        is(behind + "count(3)", z -> z.count(3));
        is(behind + "share(0, 1, 16)", z -> z.share(0, 1, 16));
        is(behind + "life(0, 0)", z -> z.life(0, 0));
        is(behind + "lot(5)", z -> z.lot(5));
    }

    private void texts() {
        is("land()", SlangYears::land);
        is("law(3) of that land", z -> z.law(3));
        is("count(0) of that land", z -> z.count(0));
        is("clear()", SlangYears::clear);
    }
}
