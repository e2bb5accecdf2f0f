/** Promises 16 to 24. */
public final class SumsTest {
    private static final Check CHECK = new Check("SumsTest");

    public static void main(String[] args) {
        promise16Letter();
        promise17Reads();
        promise17Faults();
        promise18Clear();
        promise19Sum();
        promise20Coefficient();
        promise21PlusAndLess();
        promise21Times();
        promise21Refusals();
        promise22Changed();
        promise22Room();
        promise22Refusals();
        promise23Value();
        promise24Inner();
        CHECK.end();
    }

    private static void due(String call, long got, long want) {
        CHECK.due(call, got, want);
    }

    private static void promise16Letter() {
        CharactersMultiplied x = new CharactersMultiplied();
        due("letter(-1)", x.letter(-1), -4);
        due("letter(256)", x.letter(256), -6);
        due("letter(0)", x.letter(0), 1);
        due("letter(255)", x.letter(255), 2);
        for (int i = 3; i <= 72; i++) {
            due("letter " + i, x.letter('['), i);
        }
        due("letter 73", x.letter('['), -6);
        due("letter 73 below", x.letter(-1), -4);
        due("count(1)", x.count(1), 72);
        Calls.refused(CHECK, x, 0, 0, 0, 2, 2);
    }

    private static void promise17Reads() {
        CharactersMultiplied x = new CharactersMultiplied();
        due("[]", Calls.reads(x, 0, "[]"), 1);
        Calls.holds(CHECK, x, 0, 0, 1);
        due("all of 3", Calls.reads(x, 1, "-2[3]+007[21]-[111]"), 3);
        Calls.holds(CHECK, x, 1, 3, -2, 7, -1);
        due("added up", Calls.reads(x, 1, "[3]+[3]-3[21]+3[21]+0[111]"), 1);
        Calls.holds(CHECK, x, 1, 3, 2, 0, 0);
        due("none left", Calls.reads(x, 2, "0[8]"), 0);
        Calls.holds(CHECK, x, 2, 8, 0);
        due("-0[1]", Calls.reads(x, 2, "-0[1]"), 0);
        Calls.letters(x, "999[8]+999[8]+999[8]+999[8]+999[8]+999[8]+999[8]+999[8]+999[8]+99[8]+[8]");
        due("all letters", x.count(1), 72);
        due("72 letters", x.reads(3), 1);
        Calls.holds(CHECK, x, 3, 8, 9091);
        due("letters", x.count(1), 0);
        Calls.letters(x, "[1]");
        due("reads(-1)", x.reads(-1), -1);
        due("reads(4)", x.reads(4), -1);
        due("letters stay", x.count(1), 3);
        due("reads(0)", x.reads(0), 1);
        due("value of it", x.coefficient(0, 1), 1);
        Calls.refused(CHECK, x, 2, 0, 0, 0, 0);
    }

    /** A text and the place of its fault. */
    private static final Object[][] FAULTS = {
        {"", 0}, {"-", 1}, {"+[1]", 0}, {"--[1]", 1}, {" [1]", 0}, {"1", 1}, {"999", 3}, {"0000[1]", 3},
        {"[", 1}, {"[1", 2}, {"[0]", 1}, {"[9]", 1}, {"[10]", 2}, {"[12]", 2}, {"[81]", 2}, {"[54]", 2}, {"[2x]", 2},
        {"[111111111]", 9}, {"]", 0}, {"[]]", 2}, {"[[]]", 1}, {"[1]+", 4}, {"[1]+-[1]", 4}, {"[1]++[1]", 4},
        {"[1]2[1]", 3}, {"[1] +[1]", 3}, {"[1]+[]", 5}, {"[]+[1]", 4}, {"[2]+[3]", 5}, {"[2]+[1]", 6}, {"[2]+[12]", 6},
        {"[2]+[11", 7}, {"[2]+[111]", 7}, {"[3]+[22]", 6}, {"[2]+1234[2]", 7}, {"[2]-", 4}, {"[2]-5", 5},
        {"[2]+[2]x", 7}, {"x[2]+[3]", 0}, {"[2]+[x]", 5}, {"[44]+[441]", 8}, {"12-[1]", 2}, {"[1],[1]", 3}, {"[-1]", 1},
    };

    private static void promise17Faults() {
        for (Object[] fault : FAULTS) {
            CharactersMultiplied x = new CharactersMultiplied();
            String text = (String) fault[0];
            Calls.reads(x, 1, "5[2]");
            due("reads of " + text, Calls.reads(x, 1, text), -1000 - (Integer) fault[1]);
            due("letters behind " + text, x.count(1), 0);
            due("undo behind " + text, x.count(3), 1);
            Calls.holds(CHECK, x, 1, 2, 5, 0);
            Calls.refused(CHECK, x, 0, 0, 0, 0, 0);
            due("the model of " + text, -1000 - Model.fault(text), -1000 - (Integer) fault[1]);
        }
    }

    private static void promise18Clear() {
        CharactersMultiplied x = new CharactersMultiplied();
        Calls.reads(x, 3, "[2]");
        due("clear(3)", x.clear(3), 1);
        due("clear(3) again", x.clear(3), 0);
        due("sum(3, 0)", x.sum(3, 0), -11);
        due("count(2)", x.count(2), 0);
        due("count(3)", x.count(3), 3);
        due("clear(-1)", x.clear(-1), -1);
        due("clear(4)", x.clear(4), -1);
        due("count(3) as it was", x.count(3), 3);
        Calls.refused(CHECK, x, 2, 0, 0, 0, 0);
    }

    private static void promise19Sum() {
        CharactersMultiplied x = new CharactersMultiplied();
        Calls.reads(x, 0, "3[221]-[311]");
        due("sum(0, 0)", x.sum(0, 0), 5);
        due("sum(0, 1)", x.sum(0, 1), 2);
        due("sum(0, 2)", x.sum(0, 2), 15);
        Calls.reads(x, 1, "0[8]");
        due("sum(1, 2)", x.sum(1, 2), -9);
        Calls.reads(x, 1, "[]");
        due("sum(1, 2) of size 0", x.sum(1, 2), 0);
        due("sum(-1, 3)", x.sum(-1, 3), -1);
        due("sum(4, 0)", x.sum(4, 0), -1);
        due("sum(2, 3)", x.sum(2, 3), -2);
        due("sum(0, -1)", x.sum(0, -1), -2);
        due("sum(2, 0)", x.sum(2, 0), -11);
        Calls.refused(CHECK, x, 2, 2, 0, 0, 0);
    }

    private static void promise20Coefficient() {
        CharactersMultiplied x = new CharactersMultiplied();
        Calls.reads(x, 0, "-12[21]");
        due("coefficient(0, 5)", x.coefficient(0, 5), -12);
        due("coefficient(0, 4)", x.coefficient(0, 4), 0);
        due("coefficient of another size", x.coefficient(0, 8), 0);
        due("coefficient of another size, same place", x.coefficient(0, 46), 0);
        due("coefficient(-1, 0)", x.coefficient(-1, 0), 1000000001);
        due("coefficient(4, 0)", x.coefficient(4, 0), 1000000001);
        due("coefficient(1, 67)", x.coefficient(1, 67), 1000000001);
        due("coefficient(0, -1)", x.coefficient(0, -1), 1000000001);
        due("coefficient(1, 0)", x.coefficient(1, 0), 1000000011);
        Calls.refused(CHECK, x, 4, 0, 0, 0, 0);
    }

    private static void promise21PlusAndLess() {
        CharactersMultiplied x = new CharactersMultiplied();
        Calls.reads(x, 0, "5[3]-2[21]");
        Calls.reads(x, 1, "2[21]+[111]");
        due("plus", x.makes(2, 0, 1, 0), 2);
        Calls.holds(CHECK, x, 2, 3, 5, 0, 1);
        due("less", x.makes(2, 0, 1, 1), 3);
        Calls.holds(CHECK, x, 2, 3, 5, -4, -1);
        due("into one of the two", x.makes(1, 0, 1, 1), 3);
        Calls.holds(CHECK, x, 1, 3, 5, -4, -1);
        due("less itself", x.makes(0, 0, 0, 1), 0);
        Calls.holds(CHECK, x, 0, 3, 0, 0, 0);
        due("undo counts them", x.count(3), 6);
    }

    private static void promise21Times() {
        CharactersMultiplied x = new CharactersMultiplied();
        Calls.reads(x, 0, "2[21]-[3]");
        due("times itself", x.makes(1, 0, 0, 2), 2);
        // 4 ([3] + [21] + [111]) - 4 [21] + [3]
        Calls.holds(CHECK, x, 1, 3, 5, 0, 4);
        Calls.reads(x, 0, "[321]");
        due("[321] by itself", x.makes(0, 0, 0, 2), 11);
        Calls.holds(CHECK, x, 0, 6, 1, 2, 3, 4, 2, 5, 4, 2, 3, 2, 1);
        Calls.reads(x, 2, "[4]-[1111]");
        Calls.reads(x, 3, "[31]+[22]");
        due("with what turns about", x.makes(2, 2, 3, 2), 2);
        Calls.holds(CHECK, x, 2, 4, 0, 1, 0, -1, 0);
        Calls.reads(x, 2, "-3[]");
        due("of size 0", x.makes(2, 2, 2, 2), 1);
        Calls.holds(CHECK, x, 2, 0, 9);
    }

    /** A sum of one shape with the coefficient 1000000: 100 times 100 times 100. */
    private static void makeGreatest(CharactersMultiplied x, int sum) {
        Calls.reads(x, sum, "100[2]");
        Calls.reads(x, 3, "100[2]");
        x.makes(sum, sum, 3, 2);
        x.makes(sum, sum, 3, 2);
    }

    private static void promise21Refusals() {
        CharactersMultiplied x = new CharactersMultiplied();
        makeGreatest(x, 0);
        Calls.holds(CHECK, x, 0, 2, 1000000, 0);
        Calls.reads(x, 1, "[2]");
        int undos = x.count(3);
        due("one too many", x.makes(2, 0, 1, 0), -6);
        due("nothing changed", x.sum(2, 0), -11);
        due("nothing to undo", x.count(3), undos);
        due("0 less 1000000", x.makes(1, 1, 1, 1), 0);
        due("-1000000", x.makes(1, 1, 0, 1), 1);
        Calls.holds(CHECK, x, 1, 2, -1000000, 0);
        due("the greatest stays", x.makes(2, 0, 1, 0), 0);
        due("two too many", x.makes(2, 0, 1, 1), -6);
        due("below the least", x.makes(1, 1, 0, 1), -6);
        due("much too many", x.makes(1, 1, 0, 2), -6);
        Calls.holds(CHECK, x, 1, 2, -1000000, 0);
        Calls.refused(CHECK, x, 0, 0, 0, 0, 4);
        x.clear(2);
        Calls.reads(x, 3, "[3]");
        due("makes(-1, 0, 0, 3)", x.makes(-1, 0, 0, 3), -1);
        due("makes(4, 0, 0, 0)", x.makes(4, 0, 0, 0), -1);
        due("makes(0, -1, 0, 0)", x.makes(0, -1, 0, 0), -1);
        due("makes(0, 0, 4, 0)", x.makes(0, 0, 4, 0), -1);
        due("makes(0, 2, 0, 3)", x.makes(0, 2, 0, 3), -2);
        due("makes(0, 0, 0, -1)", x.makes(0, 0, 0, -1), -2);
        due("makes(0, 2, 0, 0)", x.makes(0, 2, 0, 0), -11);
        due("makes(0, 0, 2, 0)", x.makes(0, 0, 2, 0), -11);
        due("makes(0, 0, 3, 0)", x.makes(0, 0, 3, 0), -3);
        due("makes(0, 3, 0, 2)", x.makes(0, 3, 0, 2), -3);
        Calls.refused(CHECK, x, 4, 2, 2, 0, 4);
    }

    private static void promise22Changed() {
        CharactersMultiplied x = new CharactersMultiplied();
        Calls.reads(x, 0, "2[3]-[21]+5[111]");
        due("about", x.changed(0, 0), 3);
        Calls.holds(CHECK, x, 0, 3, 5, -1, 2);
        due("restricted", x.changed(0, 1), 2);
        Calls.holds(CHECK, x, 0, 2, 4, 1);
        due("induced", x.changed(0, 2), 3);
        Calls.holds(CHECK, x, 0, 3, 4, 5, 1);
        Calls.reads(x, 1, "[421]");
        due("[421] restricted", x.changed(1, 1), 3);
        Calls.holds(CHECK, x, 1, 6, 0, 0, 1, 1, 0, 1, 0, 0, 0, 0, 0);
        Calls.reads(x, 1, "[421]");
        due("[421] induced", x.changed(1, 2), 4);
        Calls.holds(CHECK, x, 1, 8, 0, 0, 0, 0, 0, 1, 0, 0, 1, 1, 1, 0, 0);
        Calls.reads(x, 1, "7[]");
        due("[] about", x.changed(1, 0), 1);
        due("[] induced", x.changed(1, 2), 1);
        Calls.holds(CHECK, x, 1, 1, 7);
        due("[1] restricted", x.changed(1, 1), 1);
        Calls.holds(CHECK, x, 1, 0, 7);
        Calls.reads(x, 1, "[2]-[11]");
        due("none is left", x.changed(1, 1), 0);
        Calls.holds(CHECK, x, 1, 1, 0);
    }

    private static void promise22Room() {
        CharactersMultiplied x = new CharactersMultiplied();
        makeGreatest(x, 0);
        due("about", x.changed(0, 0), 1);
        Calls.reads(x, 1, "[2]");
        due("one more", x.makes(1, 0, 1, 0), 2);
        int undos = x.count(3);
        due("restricted beyond", x.changed(1, 1), -6);
        due("induced beyond", x.changed(1, 2), -6);
        Calls.holds(CHECK, x, 1, 2, 1, 1000000);
        due("nothing to undo", x.count(3), undos);
        due("restricted to the greatest", x.changed(0, 1), 1);
        due("the greatest", x.coefficient(0, 1), 1000000);
        Calls.refused(CHECK, x, 0, 0, 0, 0, 2);
    }

    private static void promise22Refusals() {
        CharactersMultiplied x = new CharactersMultiplied();
        Calls.reads(x, 0, "[]");
        Calls.reads(x, 1, "[8]");
        due("changed(-1, 3)", x.changed(-1, 3), -1);
        due("changed(4, 0)", x.changed(4, 0), -1);
        due("changed(2, 3)", x.changed(2, 3), -2);
        due("changed(0, -1)", x.changed(0, -1), -2);
        due("changed(2, 0)", x.changed(2, 0), -11);
        due("[] restricted", x.changed(0, 1), -3);
        due("[8] induced", x.changed(1, 2), -3);
        due("[8] restricted", x.changed(1, 1), 1);
        due("[7] induced", x.changed(1, 2), 2);
        Calls.refused(CHECK, x, 2, 2, 2, 0, 0);
    }

    private static void promise23Value() {
        CharactersMultiplied x = new CharactersMultiplied();
        Calls.reads(x, 0, "2[311]-[41]+0[5]");
        long[] values = {3, 0, 1, -1, -4, -2, 8};
        for (int i = 0; i < values.length; i++) {
            due("value(0, " + (12 + i) + ")", x.value(0, 12 + i), values[i]);
        }
        Calls.reads(x, 1, "-5[]");
        due("value(1, 0)", x.value(1, 0), -5);
        due("value(-1, 67)", x.value(-1, 67), Calls.FAR + 1);
        due("value(4, 12)", x.value(4, 12), Calls.FAR + 1);
        due("value(2, 67)", x.value(2, 67), Calls.FAR + 1);
        due("value(0, -1)", x.value(0, -1), Calls.FAR + 1);
        due("value(2, 0)", x.value(2, 0), Calls.FAR + 11);
        due("value(0, 11)", x.value(0, 11), Calls.FAR + 3);
        due("value(0, 19)", x.value(0, 19), Calls.FAR + 3);
        Calls.refused(CHECK, x, 4, 0, 2, 0, 0);
    }

    private static void promise24Inner() {
        CharactersMultiplied x = new CharactersMultiplied();
        Calls.reads(x, 0, "2[311]-3[41]");
        Calls.reads(x, 1, "5[41]+7[311]+9[5]");
        due("inner(0, 1)", x.inner(0, 1), -1);
        due("inner(0, 0)", x.inner(0, 0), 13);
        Calls.reads(x, 3, "[4]");
        due("inner(-1, 2)", x.inner(-1, 2), Calls.FAR + 1);
        due("inner(0, 4)", x.inner(0, 4), Calls.FAR + 1);
        due("inner(0, 2)", x.inner(0, 2), Calls.FAR + 11);
        due("inner(2, 0)", x.inner(2, 0), Calls.FAR + 11);
        due("inner(0, 3)", x.inner(0, 3), Calls.FAR + 3);
        makeGreatest(x, 0);
        due("inner of the greatest", x.inner(0, 0), 1000000000000L);
        Calls.refused(CHECK, x, 2, 0, 1, 0, 0);
    }
}
