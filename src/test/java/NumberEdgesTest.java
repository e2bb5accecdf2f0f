import java.math.BigInteger;

/**
 * The boundary cases of numbers, products, grown shapes and lots (the terms "2 NUMBER", "LOTS",
 * "A DRAW", and promises 10 to 15): each test stands under the words of the document that it holds to.
 */
public final class NumberEdgesTest {
    private static final Check CHECK = new Check("NumberEdgesTest");

    public static void main(String[] args) {
        numberOfTheLeastSizes();
        numberWithTheLine();
        numberWithTheColumn();
        numberOfUnlikeSizes();
        productFirstAndLast();
        productOfOne();
        greatestOfEachSize();
        grownByNothing();
        grownByTheFirstRow();
        grownTo8();
        grownOfSize4And5();
        settledFromTheLeastOn();
        settledAbout8();
        settledOfNone();
        settledOfSize4And5();
        lotsOfOneAndFifty();
        lotsOfSizes1And8();
        lotsWhereTheDrawWraps();
        lotsWithoutTheSignsBit();
        lotsCutBy256();
        CHECK.end();
    }

    private static void due(String call, long got, long want) {
        CHECK.due(call, got, want);
    }

    // NUMBER where there is one SHAPE only: of the SIZES 0 and 1
    private static void numberOfTheLeastSizes() {
        CharactersMultiplied x = new CharactersMultiplied();
        due("number(0, 0, 0)", x.number(0, 0, 0), 1);
        due("number(1, 1, 1)", x.number(1, 1, 1), 1);
        due("number(66, 66, 66)", x.number(66, 66, 66), 0);
        due("number(45, 45, 45)", x.number(45, 45, 45), 1);
        due("the greatest of all", x.number(55, 55, 55), 17);
    }

    // NUMBER "leaves no rest": with a LINE it is 1 of like SHAPES and 0 of others
    private static void numberWithTheLine() {
        for (int size = 0; size <= 8; size++) {
            int first = Oracle.first(size);
            for (int one = first; one < first + Oracle.many(size); one++) {
                CharactersMultiplied x = new CharactersMultiplied();
                for (int two = first; two < first + Oracle.many(size); two++) {
                    due("number(" + first + ", " + one + ", " + two + ")", x.number(first, one, two), one == two ? 1 : 0);
                }
            }
        }
    }

    // with a COLUMN it is 1 of a SHAPE and the TURNED one
    private static void numberWithTheColumn() {
        for (int size = 0; size <= 8; size++) {
            int first = Oracle.first(size);
            int last = first + Oracle.many(size) - 1;
            for (int one = first; one <= last; one++) {
                CharactersMultiplied x = new CharactersMultiplied();
                for (int two = first; two <= last; two++) {
                    due("number(" + one + ", " + last + ", " + two + ")",
                        x.number(one, last, two), Oracle.turned(one) == two ? 1 : 0);
                }
            }
        }
    }

    // "of three SHAPES of one SIZE": the last of a SIZE and the first of the next are unlike
    private static void numberOfUnlikeSizes() {
        CharactersMultiplied x = new CharactersMultiplied();
        for (int size = 0; size < 8; size++) {
            int last = Oracle.first(size + 1) - 1;
            due("number at the end of " + size, x.number(last, last, last + 1), -3);
            due("number at the end of " + size, x.number(last, last + 1, last), -3);
            due("number at the end of " + size, x.number(last + 1, last, last), -3);
            due("product at the end of " + size, x.product(last, last + 1, -1), -3);
            due("greatest at the end of " + size, x.greatest(last + 1, last), -3);
        }
    }

    // Promise 11: "how many (i -1), the i-th; -9 there are not so many", "-4 below -1"
    private static void productFirstAndLast() {
        CharactersMultiplied x = new CharactersMultiplied();
        due("all of SIZE 8", x.product(55, 55, -1), 22);
        due("the first", x.product(55, 55, 0), 45);
        due("the last", x.product(55, 55, 21), 66);
        due("behind the last", x.product(55, 55, 22), -9);
        due("product(46, 46, -1)", x.product(46, 46, -1), 4);
        due("product(46, 46, 3)", x.product(46, 46, 3), 48);
        due("product(46, 46, 4)", x.product(46, 46, 4), -9);
        due("far behind", x.product(46, 46, Integer.MAX_VALUE), -9);
        due("product(46, 46, -2)", x.product(46, 46, -2), -4);
        due("product(46, 46, least)", x.product(46, 46, Integer.MIN_VALUE), -4);
    }

    // PRODUCTS of one SHAPE: "whose NUMBER with both is above 0"
    private static void productOfOne() {
        CharactersMultiplied x = new CharactersMultiplied();
        due("product(0, 0, -1)", x.product(0, 0, -1), 1);
        due("product(0, 0, 0)", x.product(0, 0, 0), 0);
        due("product(0, 0, 1)", x.product(0, 0, 1), -9);
        due("line by line", x.product(45, 45, 0), 45);
        due("line by line", x.product(45, 45, -1), 1);
        due("column by line", x.product(66, 45, 0), 66);
        due("column by column", x.product(66, 66, 0), 45);
        due("column by (4, 2, 2)", x.product(66, 54, 0), 58);
        due("column by (4, 2, 2), one behind", x.product(66, 54, 1), -9);
    }

    // Promise 12: "The greatest NUMBER in the PRODUCT", at the greatest of each SIZE
    private static void greatestOfEachSize() {
        CharactersMultiplied x = new CharactersMultiplied();
        int[][] greatest = {{0, 0, 1}, {1, 1, 1}, {3, 3, 1}, {6, 6, 1}, {11, 11, 1}, {16, 15, 2}, {24, 24, 5}, {39, 39, 9},
            {55, 55, 17}};
        for (int[] of : greatest) {
            due("greatest(" + of[0] + ", " + of[1] + ")", x.greatest(of[0], of[1]), of[2]);
        }
        due("where only the last has it", x.greatest(66, 45), 1);
    }

    // GROWN: "(nothing, if n is s and it has no rows)"
    private static void grownByNothing() {
        CharactersMultiplied x = new CharactersMultiplied();
        due("grown(0, 0)", x.grown(0, 0), 0);
        due("grown(1, 1)", x.grown(1, 1), -9);
        due("grown(2, 2)", x.grown(2, 2), -9);
        due("grown(11, 4)", x.grown(11, 4), -9);
        due("grown(0, 1)", x.grown(0, 1), 1);
    }

    // GROWN: "only if n less s is no less than its first row"
    private static void grownByTheFirstRow() {
        for (int shape = 1; shape <= 11; shape++) {
            CharactersMultiplied x = new CharactersMultiplied();
            int least = x.of(shape, 0) + x.of(shape, 10);
            for (int n = 0; n < least; n++) {
                due("grown(" + shape + ", " + n + ")", x.grown(shape, n), -9);
            }
            for (int n = least; n <= 8; n++) {
                int grown = x.grown(shape, n);
                due("size of " + shape + " grown to " + n, x.of(grown, 0), n);
                due("its first row", x.of(grown, 10), n - x.of(shape, 0));
                for (int r = 0; r < 7; r++) {
                    due("its row " + (r + 1), x.of(grown, 11 + r), x.of(shape, 10 + r));
                }
            }
        }
    }

    // GROWN: "n 8 at most", promise 13: "-4 n; -6 8"
    private static void grownTo8() {
        CharactersMultiplied x = new CharactersMultiplied();
        due("grown(0, 8)", x.grown(0, 8), 45);
        due("grown(0, 9)", x.grown(0, 9), -6);
        due("grown(0, -1)", x.grown(0, -1), -4);
        due("grown(7, 8)", x.grown(7, 8), 52);
        due("grown(11, 8)", x.grown(11, 8), 56);
        due("grown(0, least)", x.grown(0, Integer.MIN_VALUE), -4);
        due("grown(0, greatest)", x.grown(0, Integer.MAX_VALUE), -6);
    }

    // GROWN: "a SHAPE of SIZE s (0 .. 4)", promise 13: "-3 its SIZE is above 4"
    private static void grownOfSize4And5() {
        CharactersMultiplied x = new CharactersMultiplied();
        due("the last of SIZE 4", x.grown(11, 8), 56);
        due("the first of SIZE 5", x.grown(12, 8), -3);
        due("the last of SIZE 5, though it would fit", x.grown(18, 8), -3);
        due("though it couldn't be grown", x.grown(12, 0), -3);
        due("grown(66, 8)", x.grown(66, 8), -3);
    }

    private static void settled(int one, int two, int three, int n, int number) {
        CharactersMultiplied x = new CharactersMultiplied();
        String call = "settled(" + one + ", " + two + ", " + three + ")";
        due(call + " from", x.settled(one, two, three, 0), n);
        due(call + " number", x.settled(one, two, three, 1), number);
    }

    // SETTLED: "(all n from the least on to which all can be GROWN)": nothing is said of less n
    private static void settledFromTheLeastOn() {
        settled(0, 0, 0, 0, 1);
        settled(0, 1, 1, 2, 1);
        settled(0, 0, 1, 2, 0);
        settled(0, 3, 3, 3, 1);
        settled(0, 2, 2, 4, 1);
        settled(0, 5, 5, 5, 1);
        settled(0, 11, 11, 5, 1);
        settled(0, 4, 4, 6, 1);
        settled(0, 8, 8, 7, 1);
        settled(11, 1, 4, 6, 0);
    }

    // SETTLED: "the least n from which on up to 8 the NUMBER .. stays the same": one more than the least, .. 8
    private static void settledAbout8() {
        settled(1, 1, 1, 3, 1);
        settled(1, 3, 3, 4, 1);
        settled(2, 2, 2, 6, 2);
        settled(2, 5, 5, 7, 4);
        settled(2, 4, 4, 8, 2);
        settled(1, 8, 8, 8, 2);
        settled(11, 11, 11, 7, 1);
        settled(8, 8, 8, 8, 8);
        settled(0, 7, 7, 8, 1);
        settled(7, 7, 7, 8, 1);
    }

    // SETTLED: "-9: one of them can't be GROWN to 8": with SIZES up to 4 each can be
    private static void settledOfNone() {
        for (int one = 0; one <= 11; one++) {
            CharactersMultiplied x = new CharactersMultiplied();
            CHECK.holds(one + " can be grown to 8", x.grown(one, 8) >= 45);
            for (int two = 0; two <= 11; two++) {
                CHECK.holds("settled(" + one + ", " + two + ", 7, 0)", x.settled(one, two, 7, 0) == 8);
                CHECK.holds("settled(" + one + ", " + two + ", 7, 1)", x.settled(one, two, 7, 1) >= 0);
            }
        }
    }

    // SETTLED: "three SHAPES (SIZES 0 .. 4)", promise 14: "-3 a SIZE is above 4"; unlike SIZES are fine
    private static void settledOfSize4And5() {
        CharactersMultiplied x = new CharactersMultiplied();
        due("of three sizes", x.settled(11, 1, 4, 1), 0);
        due("settled(11, 11, 11, 0)", x.settled(11, 11, 11, 0), 7);
        due("settled(12, 11, 11, 0)", x.settled(12, 11, 11, 0), -3);
        due("settled(11, 12, 11, 0)", x.settled(11, 12, 11, 0), -3);
        due("settled(11, 11, 12, 1)", x.settled(11, 11, 12, 1), -3);
        due("settled(66, 0, 0, 1)", x.settled(66, 0, 0, 1), -3);
        due("settled(11, 11, 11, 2)", x.settled(11, 11, 11, 2), -2);
        due("settled(11, 11, 11, -1)", x.settled(11, 11, 11, -1), -2);
    }

    private static void lots(int size, int n, int z, int above, int together) {
        CharactersMultiplied x = new CharactersMultiplied();
        String call = "lots(" + size + ", " + n + ", " + z + ")";
        due(call + " how often", x.lots(size, n, z, 0), above);
        due(call + " together", x.lots(size, n, z, 1), together);
    }

    // LOTS: "n times (1 .. 50)"
    private static void lotsOfOneAndFifty() {
        lots(8, 0, 0, -4, -4);
        lots(8, 1, 0, 1, 2);
        lots(8, 2, 0, 2, 9);
        lots(8, 49, 1, 30, 79);
        lots(8, 50, 1, 31, 80);
        lots(8, 51, 1, -6, -6);
        lots(8, Integer.MIN_VALUE, 1, -4, -4);
        lots(8, Integer.MAX_VALUE, 1, -6, -6);
    }

    // LOTS: "for a SIZE (1 .. 8)"
    private static void lotsOfSizes1And8() {
        lots(0, 1, 7, -4, -4);
        lots(1, 1, 7, 1, 1);
        lots(1, 50, 7, 50, 50);
        lots(2, 50, 7, 31, 31);
        lots(3, 50, 7, 29, 29);
        lots(8, 50, 7, 31, 103);
        lots(9, 50, 7, -6, -6);
        lots(-1, 50, 7, -4, -4);
    }

    // "z becomes z times 1664525, plus 1013904223 (an int)"
    private static void lotsWhereTheDrawWraps() {
        lots(2, 50, Integer.MAX_VALUE, 24, 24);
        lots(2, 50, Integer.MIN_VALUE, 24, 24);
        lots(3, 50, Integer.MAX_VALUE, 26, 26);
        lots(3, 2, Integer.MIN_VALUE, 1, 1);
        lots(8, 50, Integer.MAX_VALUE, 26, 70);
        lots(8, 50, Integer.MIN_VALUE, 25, 70);
        lots(8, 50, -1, 26, 70);
    }

    /** The seed behind which z becomes this. */
    private static int seedBefore(int z) {
        BigInteger all = BigInteger.ONE.shiftLeft(32);
        BigInteger back = BigInteger.valueOf(1664525).modInverse(all);
        return BigInteger.valueOf(z).subtract(BigInteger.valueOf(1013904223)).multiply(back).intValue();
    }

    // "(z without its sign's bit ..)": of the least int it leaves 0, of -1 the greatest int
    private static void lotsWithoutTheSignsBit() {
        due("the seed ahead of the least int", seedBefore(Integer.MIN_VALUE), -1512697883);
        lots(3, 1, seedBefore(Integer.MIN_VALUE), 0, 0);
        lots(3, 1, seedBefore(0), 0, 0);
        lots(3, 1, seedBefore(-1), 1, 1);
        lots(3, 1, seedBefore(Integer.MAX_VALUE), 1, 1);
        lots(5, 1, seedBefore(-1), 1, 1);
        lots(5, 1, seedBefore(Integer.MIN_VALUE), 0, 0);
    }

    // "(.. divided by 256, cut) modulo m": 255 gives the first SHAPE, 256 the second
    private static void lotsCutBy256() {
        lots(2, 1, seedBefore(255), 1, 1);
        lots(2, 1, seedBefore(256), 1, 1);
        lots(5, 1, seedBefore(255), 0, 0);
        lots(5, 1, seedBefore(256), 1, 1);
        lots(5, 1, seedBefore(0x800000ff), 0, 0);
        lots(5, 1, seedBefore(0x80000100), 1, 1);
    }
}
