/** What several tests do with an object. */
final class Calls {
    static final long FAR = 4000000000000000000L;
    static final int NEAR = 1000000000;

    private Calls() {
    }

    static void letters(CharactersMultiplied x, String text) {
        for (int i = 0; i < text.length(); i++) {
            x.letter(text.charAt(i));
        }
    }

    /** The letters come and become a sum: what reads() answers. */
    static int reads(CharactersMultiplied x, int sum, String text) {
        letters(x, text);
        return x.reads(sum);
    }

    static void list(CharactersMultiplied x, int list, int... values) {
        x.list(list, values.length);
        for (int i = 0; i < values.length; i++) {
            x.put(list, i, values[i]);
        }
    }

    /** How many refusals -1, -2, -3, -4 and -6 there were, and none of another number. */
    static void refused(Check check, CharactersMultiplied x, int... counts) {
        int[] whats = {11, 12, 13, 14, 16};
        for (int i = 0; i < whats.length; i++) {
            check.due("count(" + whats[i] + ")", x.count(whats[i]), counts[i]);
        }
        check.due("count(15)", x.count(15), 0);
    }

    /** The coefficients of a sum, shape by shape of a size. */
    static void holds(Check check, CharactersMultiplied x, int sum, int size, int... coefficients) {
        check.due("size of sum " + sum, x.sum(sum, 0), size);
        int first = x.shapes(size, 0);
        for (int i = 0; i < coefficients.length; i++) {
            int shape = first + i;
            check.due("coefficient(" + sum + ", " + shape + ")", x.coefficient(sum, shape), coefficients[i]);
        }
    }
}
