/** What several tests do with an object. */
final class Calls {
    static final long FAR = 4000000000000000000L;
    static final int NEAR = 1000000000;

    private Calls() {
    }

    static void letters(CharactersMultiplied x, String text) {
        for (int i = 0; i < text.length(); i++) {
            x.letter(text.charAt(i));
        }
    }

    /** The letters come and become a sum: what reads() answers. */
    static int reads(CharactersMultiplied x, int sum, String text) {
        letters(x, text);
        return x.reads(sum);
    }

    static void list(CharactersMultiplied x, int list, int... values) {
        x.list(list, values.length);
        for (int i = 0; i < values.length; i++) {
            x.put(list, i, values[i]);
        }
    }

    /** The rows of a shape as a text tells them. */
    static String rows(int shape) {
        StringBuilder text = new StringBuilder("[");
        for (int row : Oracle.SHAPES.get(shape)) {
            text.append(row);
        }
        return text.append(']').toString();
    }

    /**
     * A sum gets these coefficients, place by place among the shapes of a size, also those that no
     * text can tell: their thousands are read first and multiplied. The scratch sum is used up.
     */
    static void makes(CharactersMultiplied x, int sum, int scratch, int size, int... coefficients) {
        int first = Oracle.first(size);
        StringBuilder thousands = new StringBuilder("0" + rows(first));
        StringBuilder rest = new StringBuilder("0" + rows(first));
        for (int place = 0; place < coefficients.length; place++) {
            char sign = coefficients[place] < 0 ? '-' : '+';
            int value = Math.abs(coefficients[place]);
            term(thousands, sign, Math.min(value / 1000, 999), first + place);
            term(thousands, sign, value / 1000 - Math.min(value / 1000, 999), first + place);
            term(rest, sign, value % 1000, first + place);
        }
        reads(x, sum, thousands.toString());
        reads(x, scratch, "999" + rows(first) + "+" + rows(first));
        x.makes(sum, sum, scratch, 2);
        reads(x, scratch, rest.toString());
        x.makes(sum, sum, scratch, 0);
        x.clear(scratch);
    }

    private static void term(StringBuilder text, char sign, int number, int shape) {
        if (number > 0) {
            text.append(sign).append(number).append(rows(shape));
        }
    }

    /** How many refusals -1, -2, -3, -4 and -6 there were, and none of another number. */
    static void refused(Check check, CharactersMultiplied x, int... counts) {
        int[] whats = {11, 12, 13, 14, 16};
        for (int i = 0; i < whats.length; i++) {
            check.due("count(" + whats[i] + ")", x.count(whats[i]), counts[i]);
        }
        check.due("count(15)", x.count(15), 0);
    }

    /** The coefficients of a sum, shape by shape of a size. */
    static void holds(Check check, CharactersMultiplied x, int sum, int size, int... coefficients) {
        check.due("size of sum " + sum, x.sum(sum, 0), size);
        int first = x.shapes(size, 0);
        for (int i = 0; i < coefficients.length; i++) {
            int shape = first + i;
            check.due("coefficient(" + sum + ", " + shape + ")", x.coefficient(sum, shape), coefficients[i]);
        }
    }
}
