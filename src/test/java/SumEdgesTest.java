/**
 * The boundary cases of sums (the terms "3 SUMS" and promises 18 to 24): each test stands under the
 * words of the document that it holds to. Their text is in TextEdgesTest, what is refused first in
 * RefusalEdgesTest, what is undone in UndoEdgesTest.
 */
public final class SumEdgesTest {
    private static final Check CHECK = new Check("SumEdgesTest");
    private static final int MOST = 1000000;
    /** How many sums a run of makes() with large coefficients may use up ahead of it. */
    private static final int SCRATCH = 3;

    public static void main(String[] args) {
        sumsFrom0To3();
        clearOfMissing();
        termsAreNot0();
        firstTerm();
        coefficientOfAnotherSize();
        plusToTheEnds();
        lessToTheEnds();
        rangeAtEachPlace();
        timesToTheEnds();
        timesBeyondInts();
        timesThatCancel();
        timesOfSize0();
        intoOneOfTheTwo();
        unlikeSizes();
        aboutOfTheEnds();
        aboutOfEach();
        restrictedOfSize1();
        restrictedOfEach();
        inducedOfSize7();
        inducedOfEach();
        changedToTheEnds();
        valueAtEachClass();
        valueOfTheGreatest();
        innerOfTheGreatest();
        innerOfNoTerms();
        CHECK.end();
    }

    private static void due(String call, long got, long want) {
        CHECK.due(call, got, want);
    }

    private static CharactersMultiplied with(String... texts) {
        CharactersMultiplied x = new CharactersMultiplied();
        for (int sum = 0; sum < texts.length; sum++) {
            Calls.reads(x, sum, texts[sum]);
        }
        return x;
    }

    // "SUMS 0 .. 3": each is its own, -1 and 4 are none
    private static void sumsFrom0To3() {
        CharactersMultiplied x = with("1[2]", "2[3]", "3[4]", "4[5]");
        for (int sum = 0; sum <= 3; sum++) {
            due("size of " + sum, x.sum(sum, 0), sum + 2);
            due("first of " + sum, x.coefficient(sum, x.shapes(sum + 2, 0)), sum + 1);
        }
        int[] others = {-1, 4, Integer.MIN_VALUE, Integer.MAX_VALUE};
        for (int sum : others) {
            due("clear(" + sum + ")", x.clear(sum), -1);
            due("sum(" + sum + ", 0)", x.sum(sum, 0), -1);
            due("coefficient(" + sum + ", 0)", x.coefficient(sum, 0), Calls.NEAR + 1);
            due("makes(" + sum + ", 0, 0, 0)", x.makes(sum, 0, 0, 0), -1);
            due("makes(0, " + sum + ", 0, 0)", x.makes(0, sum, 0, 0), -1);
            due("makes(0, 0, " + sum + ", 0)", x.makes(0, 0, sum, 0), -1);
            due("changed(" + sum + ", 0)", x.changed(sum, 0), -1);
            due("value(" + sum + ", 2)", x.value(sum, 2), Calls.FAR + 1);
            due("inner(" + sum + ", 0)", x.inner(sum, 0), Calls.FAR + 1);
            due("inner(0, " + sum + ")", x.inner(0, sum), Calls.FAR + 1);
        }
        due("count(0)", x.count(0), 4);
    }

    // Promise 18: "A SUM is missing: 1; 0 it was."
    private static void clearOfMissing() {
        CharactersMultiplied x = with("[]", "0[8]");
        due("a sum of SIZE 0", x.clear(0), 1);
        due("a sum of no terms", x.clear(1), 1);
        due("a sum that was cleared", x.clear(0), 0);
        due("a sum that never was", x.clear(3), 0);
        due("count(0)", x.count(0), 0);
        due("sum(0, 0)", x.sum(0, 0), -11);
        due("coefficient(0, 0)", x.coefficient(0, 0), Calls.NEAR + 11);
        due("value(0, 0)", x.value(0, 0), Calls.FAR + 11);
        due("inner(0, 0)", x.inner(0, 0), Calls.FAR + 11);
        due("changed(0, 0)", x.changed(0, 0), -11);
        due("makes(1, 0, 0, 0)", x.makes(1, 0, 0, 0), -11);
        due("what can be undone", x.count(3), 6);
    }

    // "TERMS: SHAPES whose COEFFICIENT isn't 0."
    private static void termsAreNot0() {
        CharactersMultiplied x = with("0[2]", "-[2]+0[11]", "[]", "-[8]-[11111111]");
        due("no terms", x.sum(0, 1), 0);
        due("one below 0", x.sum(1, 1), 1);
        due("of SIZE 0", x.sum(2, 1), 1);
        due("the first and the last of SIZE 8", x.sum(3, 1), 2);
        due("all terms", x.count(2), 4);
        due("a sum less itself", x.makes(3, 3, 3, 1), 0);
        due("its SIZE", x.sum(3, 0), 8);
        due("it isn't missing", x.count(0), 4);
        due("all terms", x.count(2), 2);
    }

    // Promise 19: "2 the first of them (-9)"
    private static void firstTerm() {
        CharactersMultiplied x = with("0[]", "0[2]", "[11111111]", "-[]");
        due("of no terms of SIZE 0", x.sum(0, 2), -9);
        due("of no terms", x.sum(1, 2), -9);
        due("the last of SIZE 8", x.sum(2, 2), 66);
        due("the one of SIZE 0", x.sum(3, 2), 0);
        due("sum(0, 3)", x.sum(0, 3), -2);
        due("sum(0, -1)", x.sum(0, -1), -2);
        Calls.reads(x, 0, "0[3]-[111]");
        due("the last of SIZE 3", x.sum(0, 2), 6);
        Calls.reads(x, 0, "[111]-[3]");
        due("the first of SIZE 3", x.sum(0, 2), 4);
    }

    // Promise 20: "The COEFFICIENT of a SHAPE in a SUM (0 of another SIZE)."
    private static void coefficientOfAnotherSize() {
        CharactersMultiplied x = with("5[3]+6[21]+7[111]", "9[]", "3[8]+4[11111111]");
        due("the last of the SIZE below", x.coefficient(0, 3), 0);
        due("the first", x.coefficient(0, 4), 5);
        due("the last", x.coefficient(0, 6), 7);
        due("the first of the SIZE above", x.coefficient(0, 7), 0);
        due("shape 0 of SIZE 3", x.coefficient(0, 0), 0);
        due("shape 0 of SIZE 0", x.coefficient(1, 0), 9);
        due("shape 1 of SIZE 0", x.coefficient(1, 1), 0);
        due("the last of all", x.coefficient(2, 66), 4);
        due("no shape", x.coefficient(2, 67), Calls.NEAR + 1);
        due("no shape", x.coefficient(2, -1), Calls.NEAR + 1);
        for (int shape = 0; shape < 45; shape++) {
            due("coefficient(2, " + shape + ")", x.coefficient(2, shape), 0);
        }
    }

    /** Two sums of one coefficient become PLUS, LESS or TIMES: that, or refused. */
    private static void makes(int what, int one, int other, long made) {
        CharactersMultiplied x = new CharactersMultiplied();
        Calls.makes(x, 0, SCRATCH, 2, one);
        Calls.makes(x, 1, SCRATCH, 2, other);
        due("the first", x.coefficient(0, 2), one);
        due("the other", x.coefficient(1, 2), other);
        boolean fits = Math.abs(made) <= MOST;
        String call = "makes(2, 0, 1, " + what + ") of " + one + " and " + other;
        due(call, x.makes(2, 0, 1, what), fits ? made == 0 ? 0 : 1 : -6);
        due(call + ", the sum", x.coefficient(2, 2), fits ? made : Calls.NEAR + 11);
        due(call + ", refused", x.count(16), fits ? 0 : 1);
    }

    // "a COEFFICIENT (a whole number, -1000000 .. 1000000)", PLUS
    private static void plusToTheEnds() {
        makes(0, MOST, 0, MOST);
        makes(0, MOST - 1, 1, MOST);
        makes(0, MOST, 1, MOST + 1);
        makes(0, MOST, MOST, 2 * MOST);
        makes(0, -MOST, 0, -MOST);
        makes(0, 1 - MOST, -1, -MOST);
        makes(0, -MOST, -1, -MOST - 1);
        makes(0, -MOST, -MOST, -2 * MOST);
        makes(0, MOST, -MOST, 0);
    }

    // the same of LESS
    private static void lessToTheEnds() {
        makes(1, 0, MOST, -MOST);
        makes(1, 0, -MOST, MOST);
        makes(1, -1, MOST, -MOST - 1);
        makes(1, 1, -MOST, MOST + 1);
        makes(1, MOST, 1, MOST - 1);
        makes(1, -MOST, MOST, -2 * MOST);
        makes(1, MOST, MOST, 0);
    }

    // "-6 a COEFFICIENT out of range": any of them, the first of a SIZE as the last
    private static void rangeAtEachPlace() {
        int[] places = {0, 1, 10, 20, 21};
        for (int place : places) {
            CharactersMultiplied x = new CharactersMultiplied();
            int[] coefficients = new int[22];
            coefficients[place] = MOST;
            Calls.makes(x, 0, SCRATCH, 8, coefficients);
            Calls.reads(x, 1, "0[8]+1" + Calls.rows(45 + place));
            Calls.reads(x, 2, "7[2]");
            due("place " + place + " beyond", x.makes(2, 0, 1, 0), -6);
            Calls.holds(CHECK, x, 2, 2, 7, 0);
            due("place " + place + " less", x.makes(2, 0, 1, 1), 1);
            due("place " + place, x.coefficient(2, 45 + place), MOST - 1);
        }
    }

    // TIMES to the ends of the range
    private static void timesToTheEnds() {
        makes(2, 1000, 1000, MOST);
        makes(2, 1000, -1000, -MOST);
        makes(2, MOST, 1, MOST);
        makes(2, MOST, -1, -MOST);
        makes(2, 1000, 1001, 1001000);
        makes(2, -1000, 1001, -1001000);
        makes(2, 101, 9901, MOST + 1);
        makes(2, 101, -9901, -MOST - 1);
        makes(2, MOST, 0, 0);
    }

    // TIMES beyond ints: what would wrap around as an int is out of range, too
    private static void timesBeyondInts() {
        makes(2, 65536, 65536, 1L << 32);
        makes(2, 65536, -65536, -(1L << 32));
        makes(2, 131072, 32768, 1L << 32);
        makes(2, MOST, MOST, (long) MOST * MOST);
        makes(2, -MOST, MOST, -(long) MOST * MOST);
        makes(2, 46341, 46341, 46341L * 46341);
        makes(2, 858994, 5000, 858994L * 5000);
    }

    // TIMES: only what is together need be in range: 1000000 [2] + 1000000 [11] by [2] - [11], 1000000 times
    private static void timesThatCancel() {
        CharactersMultiplied x = new CharactersMultiplied();
        Calls.makes(x, 0, SCRATCH, 2, MOST, MOST);
        Calls.makes(x, 1, SCRATCH, 2, MOST, -MOST);
        due("all cancels", x.makes(2, 0, 1, 2), 0);
        Calls.holds(CHECK, x, 2, 2, 0, 0);
        due("and the other way", x.makes(2, 1, 0, 2), 0);
        Calls.makes(x, 0, SCRATCH, 2, MOST, 1 - MOST);
        Calls.reads(x, 1, "[2]+[11]");
        due("all but 1 cancels", x.makes(2, 0, 1, 2), 2);
        Calls.holds(CHECK, x, 2, 2, 1, 1);
    }

    // TIMES of SIZE 0 and of SIZE 8
    private static void timesOfSize0() {
        CharactersMultiplied x = with("3[]", "-4[]", "[4211]", "[11111111]");
        due("of SIZE 0", x.makes(0, 0, 1, 2), 1);
        Calls.holds(CHECK, x, 0, 0, -12);
        due("of SIZE 8", x.makes(0, 2, 2, 2), 22);
        Calls.holds(CHECK, x, 0, 8, 1, 2, 5, 4, 6, 13, 6, 4, 14, 12, 17, 6, 8, 12, 14, 13, 4, 4, 6, 5, 2, 1);
        due("by the column", x.makes(0, 3, 3, 2), 1);
        due("the line", x.coefficient(0, 45), 1);
    }

    // "A SUM becomes PLUS .. of two": the SUM may be one of the two, or both
    private static void intoOneOfTheTwo() {
        for (int what = 0; what <= 2; what++) {
            CharactersMultiplied apart = with("2[2]-3[11]", "5[2]+7[11]");
            apart.makes(2, 0, 1, what);
            CharactersMultiplied one = with("2[2]-3[11]", "5[2]+7[11]");
            one.makes(0, 0, 1, what);
            CharactersMultiplied other = with("2[2]-3[11]", "5[2]+7[11]");
            other.makes(1, 0, 1, what);
            for (int shape = 2; shape <= 3; shape++) {
                due("into the one, " + what, one.coefficient(0, shape), apart.coefficient(2, shape));
                due("into the other, " + what, other.coefficient(1, shape), apart.coefficient(2, shape));
                due("the one stays", other.coefficient(0, shape), apart.coefficient(0, shape));
                due("the other stays", one.coefficient(1, shape), apart.coefficient(1, shape));
            }
        }
        CharactersMultiplied x = with("2[2]-3[11]");
        due("into both, TIMES", x.makes(0, 0, 0, 2), 2);
        Calls.holds(CHECK, x, 0, 2, 13, -12);
        due("into both, PLUS", x.makes(0, 0, 0, 0), 2);
        Calls.holds(CHECK, x, 0, 2, 26, -24);
        due("into both, LESS", x.makes(0, 0, 0, 1), 0);
    }

    // "of two (of one SIZE)": also SUMS without TERMS have a SIZE
    private static void unlikeSizes() {
        CharactersMultiplied x = with("0[2]", "0[3]", "[]");
        for (int what = 0; what <= 2; what++) {
            due("0 [2] and 0 [3]", x.makes(3, 0, 1, what), -3);
            due("0 [2] and []", x.makes(3, 0, 2, what), -3);
            due("0 [2] and 0 [2]", x.makes(3, 0, 0, what), 0);
            due("its SIZE", x.sum(3, 0), 2);
        }
        due("inner", x.inner(0, 1), Calls.FAR + 3);
        due("value", x.value(0, 4), Calls.FAR + 3);
    }

    // ABOUT: of SIZE 0, 1 and 8
    private static void aboutOfTheEnds() {
        CharactersMultiplied x = with("3[]", "4[1]", "[8]-2[71]+5[4211]", "0[8]");
        due("of SIZE 0", x.changed(0, 0), 1);
        Calls.holds(CHECK, x, 0, 0, 3);
        due("of SIZE 1", x.changed(1, 0), 1);
        Calls.holds(CHECK, x, 1, 1, 4);
        due("of SIZE 8", x.changed(2, 0), 3);
        Calls.holds(CHECK, x, 2, 8, 0, 0, 0, 0, 0, 0, 0, 0, 0, 0, 5, 0, 0, 0, 0, 0, 0, 0, 0, 0, -2, 1);
        due("of no terms", x.changed(3, 0), 0);
    }

    // "each SHAPE's COEFFICIENT goes to the TURNED one"
    private static void aboutOfEach() {
        for (int shape = 0; shape <= 66; shape++) {
            CharactersMultiplied x = with("3" + Calls.rows(shape));
            due("about of " + shape, x.changed(0, 0), 1);
            due("its term", x.sum(0, 2), Oracle.turned(shape));
            due("its coefficient", x.coefficient(0, Oracle.turned(shape)), 3);
        }
    }

    // "RESTRICTED (SIZE 1 or more)"
    private static void restrictedOfSize1() {
        CharactersMultiplied x = with("3[1]", "[]", "0[]");
        due("of SIZE 1", x.changed(0, 1), 1);
        Calls.holds(CHECK, x, 0, 0, 3);
        due("again", x.changed(0, 1), -3);
        due("of SIZE 0", x.changed(1, 1), -3);
        due("of SIZE 0 without terms", x.changed(2, 1), -3);
        Calls.holds(CHECK, x, 0, 0, 3);
        Calls.refused(CHECK, x, 0, 0, 3, 0, 0);
    }

    // "all SHAPES that have it left when a CELL at the end of a row is taken off"
    private static void restrictedOfEach() {
        for (int shape = 1; shape <= 66; shape++) {
            CharactersMultiplied x = with("-2" + Calls.rows(shape));
            due("restricted of " + shape, x.changed(0, 1), Oracle.rims(shape, 1).size());
            due("its SIZE", x.sum(0, 0), Oracle.size(shape) - 1);
            for (int[] rim : Oracle.rims(shape, 1)) {
                due("coefficient of " + rim[0], x.coefficient(0, rim[0]), -2);
            }
        }
    }

    // "INDUCED (SIZE 7 or less)"
    private static void inducedOfSize7() {
        CharactersMultiplied x = with("[7]-[1111111]", "[8]", "0[8]", "5[]");
        due("of SIZE 8", x.changed(1, 2), -3);
        due("of SIZE 8 without terms", x.changed(2, 2), -3);
        due("of SIZE 7", x.changed(0, 2), 4);
        Calls.holds(CHECK, x, 0, 8, 1, 1, 0, 0, 0, 0, 0, 0, 0, 0, 0, 0, 0, 0, 0, 0, 0, 0, 0, 0, -1, -1);
        due("again", x.changed(0, 2), -3);
        for (int size = 1; size <= 8; size++) {
            CHECK.holds("from SIZE 0 up to " + size, x.changed(3, 2) > 0);
            due("its SIZE", x.sum(3, 0), size);
        }
        due("beyond", x.changed(3, 2), -3);
        for (int shape = 45; shape <= 66; shape++) {
            due("DIMENSION times 5", x.coefficient(3, shape), 5 * x.of(shape, 3));
        }
        Calls.refused(CHECK, x, 0, 0, 4, 0, 0);
    }

    // "of each SHAPE of SIZE plus 1 those of all SHAPES that are left of it so"
    private static void inducedOfEach() {
        for (int shape = 0; shape < 45; shape++) {
            CharactersMultiplied x = with("-2" + Calls.rows(shape));
            int terms = x.changed(0, 2);
            int found = 0;
            for (int more = Oracle.first(Oracle.size(shape) + 1); more <= 66 && Oracle.size(more) == Oracle.size(shape) + 1;
                    more++) {
                boolean left = false;
                for (int[] rim : Oracle.rims(more, 1)) {
                    left |= rim[0] == shape;
                }
                found += left ? 1 : 0;
                due("coefficient of " + more, x.coefficient(0, more), left ? -2 : 0);
            }
            due("induced of " + shape, terms, found);
        }
    }

    // Promise 22: "-6 a COEFFICIENT out of range": to the ends, and one beyond
    private static void changedToTheEnds() {
        for (int sign = -1; sign <= 1; sign += 2) {
            for (int what = 1; what <= 2; what++) {
                CharactersMultiplied x = new CharactersMultiplied();
                // [1] is left of both, and (2, 1) comes of both.
                Calls.makes(x, 0, SCRATCH, 2, sign * 500000, sign * 500000);
                Calls.makes(x, 1, SCRATCH, 2, sign * 500001, sign * 500000);
                due("to the end, " + what, x.changed(0, what), what == 1 ? 1 : 3);
                due("the end", x.coefficient(0, what == 1 ? 1 : 5), sign * MOST);
                int undos = x.count(3);
                due("beyond, " + what, x.changed(1, what), -6);
                Calls.holds(CHECK, x, 1, 2, sign * 500001, sign * 500000);
                due("nothing to undo", x.count(3), undos);
                due("about", x.changed(1, 0), 2);
                Calls.holds(CHECK, x, 1, 2, sign * 500000, sign * 500001);
            }
        }
    }

    // "VALUE at a CLASS: all COEFFICIENTS times CHARACTERS, together."
    private static void valueAtEachClass() {
        for (int size = 0; size <= 8; size++) {
            CharactersMultiplied x = new CharactersMultiplied();
            int first = Oracle.first(size);
            int last = first + Oracle.many(size) - 1;
            Calls.reads(x, 0, "2" + Calls.rows(first) + "-3" + Calls.rows(last));
            Calls.reads(x, 1, "0" + Calls.rows(first));
            for (int atClass = first; atClass <= last; atClass++) {
                long value = 2 * Oracle.character(first, atClass) - 3 * Oracle.character(last, atClass);
                due("value(0, " + atClass + ")", x.value(0, atClass), value);
                due("value(1, " + atClass + ")", x.value(1, atClass), 0);
            }
            due("the class ahead", x.value(0, first - 1), size == 0 ? Calls.FAR + 1 : Calls.FAR + 3);
            due("the class behind", x.value(0, last + 1), size == 8 ? Calls.FAR + 1 : Calls.FAR + 3);
        }
    }

    // VALUE of the greatest COEFFICIENTS
    private static void valueOfTheGreatest() {
        CharactersMultiplied x = new CharactersMultiplied();
        int[] coefficients = new int[22];
        coefficients[10] = MOST;
        coefficients[15] = MOST;
        Calls.makes(x, 0, SCRATCH, 8, coefficients);
        due("at the rows of 1", x.value(0, 66), 154000000);
        Calls.reads(x, 1, "0[8]");
        x.makes(1, 1, 0, 1);
        due("below 0", x.value(1, 66), -154000000);
    }

    // "INNER of two .., multiplied, together": beyond ints
    private static void innerOfTheGreatest() {
        CharactersMultiplied x = new CharactersMultiplied();
        Calls.makes(x, 0, SCRATCH, 2, MOST, -MOST);
        Calls.makes(x, 1, SCRATCH, 2, -MOST, MOST);
        Calls.makes(x, 2, SCRATCH, 2, MOST, MOST);
        due("inner(0, 0)", x.inner(0, 0), 2000000000000L);
        due("inner(0, 1)", x.inner(0, 1), -2000000000000L);
        due("inner(0, 2)", x.inner(0, 2), 0);
    }

    // INNER of SUMS without TERMS, of SIZE 0, at the first and the last SHAPE of SIZE 8
    private static void innerOfNoTerms() {
        CharactersMultiplied x = with("0[8]", "3[8]-5[11111111]", "7[8]+2[11111111]", "-9[]");
        due("inner(0, 1)", x.inner(0, 1), 0);
        due("inner(1, 2)", x.inner(1, 2), 11);
        due("inner(2, 1)", x.inner(2, 1), 11);
        due("inner(3, 3)", x.inner(3, 3), 81);
        due("inner(3, 0)", x.inner(3, 0), Calls.FAR + 3);
    }
}
