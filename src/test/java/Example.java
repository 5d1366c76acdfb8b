/** The program that README.md shows: a land of two places and two words, and what becomes of word 0. */
public final class Example {
    private static final String LAND =
        "place; place; near 0 1 4; law 7 3 5; start 30; word 0 0 0; word 0 5 1 plain;";

    private Example() { }

    public static void main(String[] args) {
        SlangYears x = new SlangYears();
        type(x, LAND);
        System.out.println("items: " + x.land());
        System.out.println("years that went by: " + x.go(20));
        System.out.println("peak: " + x.life(0, 0) + " thousandths, in year " + x.life(0, 1));
        System.out.println("over in year " + x.life(0, 2) + ", in print in year " + x.printed(0, 0));

        // Bit 0 is word 0, bit 1 is word 1: a page with word 0 on it, from which word 1 was left out.
        System.out.println("its writer is most likely " + x.likeliest(1, 2, 0));
        System.out.println("aged 35 to 50: " + x.old(1, 2, 35, 50, 0) + " of " + x.old(1, 2, 35, 50, 1));

        // A letter with both words that says: written in year 3, aged 16, at place 0.
        x.letter(3, 3, 16, 0);
        System.out.println("words that it could not have: bits " + x.could());
    }

    /** Eight bytes a call at most, the first of them the highest. */
    private static void type(SlangYears x, String text) {
        for (int from = 0; from < text.length(); from += 8) {
            int until = Math.min(from + 8, text.length());
            long v = 0;
            for (int i = from; i < until; i++) {
                v = v << 8 | text.charAt(i);
            }
            x.type(v, until - from);
        }
    }
}
