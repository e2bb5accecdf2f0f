/**
 * The boundary cases of letters and of the text of a sum (the terms "A SUM is told in letters",
 * "FAULT", and promises 16 and 17): each test stands under the words of the document that it holds to.
 */
public final class TextEdgesTest {
    private static final Check CHECK = new Check("TextEdgesTest");
    private static final String DIGITS = "0123456789";
    private static final int MOST = 72;

    public static void main(String[] args) {
        lettersFrom0To255();
        lettersAtMost72();
        lettersComeAgain();
        textOf72Letters();
        eachLetterAtEachPlace();
        perhapsMinus();
        onceOrMoreTerms();
        numberOf1To3Digits();
        number0();
        rowsOrNone();
        rowsNotGreater();
        sizesOfAllTerms();
        sizeAbove8();
        somethingLacks();
        theFirstFault();
        withoutBlanks();
        addedUp();
        faultLeavesTheSum();
        readsOverAnotherSum();
        readsOfNoSum();
        CHECK.end();
    }

    private static void due(String call, long got, long want) {
        CHECK.due(call, got, want);
    }

    /** A text on an object of its own has so many terms. */
    private static void stands(String text, int terms) {
        CharactersMultiplied x = new CharactersMultiplied();
        due("reads of " + text, Calls.reads(x, 0, text), terms);
        due("count(0) behind " + text, x.count(0), 1);
        due("count(3) behind " + text, x.count(3), 1);
    }

    /** A text on an object of its own has its fault at this place. */
    private static void fault(String text, int place) {
        CharactersMultiplied x = new CharactersMultiplied();
        due("reads of " + text, Calls.reads(x, 0, text), -1000 - place);
        due("count(0) behind " + text, x.count(0), 0);
        due("count(1) behind " + text, x.count(1), 0);
        due("count(3) behind " + text, x.count(3), 0);
        Calls.refused(CHECK, x, 0, 0, 0, 0, 0);
    }

    /** A text on an object of its own: the coefficients, place by place. */
    private static void tells(String text, int size, int... coefficients) {
        CharactersMultiplied x = new CharactersMultiplied();
        Calls.reads(x, 0, text);
        Calls.holds(CHECK, x, 0, size, coefficients);
    }

    // Promise 16: "A letter (0 .. 255) comes: how many there are. -4; -6 (255; ..)"
    private static void lettersFrom0To255() {
        CharactersMultiplied x = new CharactersMultiplied();
        due("letter(-1)", x.letter(-1), -4);
        due("letter(0)", x.letter(0), 1);
        due("letter(255)", x.letter(255), 2);
        due("letter(256)", x.letter(256), -6);
        due("letter(least)", x.letter(Integer.MIN_VALUE), -4);
        due("letter(greatest)", x.letter(Integer.MAX_VALUE), -6);
        due("letter(256 + 91)", x.letter(256 + '['), -6);
        due("count(1)", x.count(1), 2);
    }

    // "(72 at most)", promise 16: "-6 (..; 72, too)"
    private static void lettersAtMost72() {
        CharactersMultiplied x = new CharactersMultiplied();
        for (int i = 1; i <= MOST; i++) {
            due("letter " + i, x.letter('['), i);
        }
        due("one more", x.letter('['), -6);
        due("one more, of letter 0", x.letter(0), -6);
        due("one more, and above 255", x.letter(256), -6);
        due("one more, and below 0", x.letter(-1), -4);
        due("count(1)", x.count(1), MOST);
        Calls.refused(CHECK, x, 0, 0, 0, 1, 3);
    }

    // Promise 17: "The letters become a SUM, and are no more (with a FAULT neither)": 72 may come again
    private static void lettersComeAgain() {
        CharactersMultiplied x = new CharactersMultiplied();
        for (int turn = 0; turn < 3; turn++) {
            for (int i = 1; i <= MOST; i++) {
                due("letter " + i + " of turn " + turn, x.letter(turn == 1 ? 'x' : '['), i);
            }
            due("letter 73 of turn " + turn, x.letter('['), -6);
            due("reads of turn " + turn, x.reads(0), turn == 1 ? -1000 : -1001);
            due("count(1) of turn " + turn, x.count(1), 0);
        }
        due("reads without letters", x.reads(0), -1000);
        due("reads of the next", Calls.reads(x, 0, "[]"), 1);
    }

    // Texts of 72 letters: the last letter stands, is a FAULT, or something lacks behind it
    private static void textOf72Letters() {
        String terms = "-[]".repeat(24);
        due("letters", terms.length(), MOST);
        tells(terms, 0, -24);
        stands(terms, 1);
        String lacking = "[]" + "+[]".repeat(23) + "+";
        due("letters", lacking.length(), MOST);
        fault(lacking, MOST);
        fault(lacking.substring(0, MOST - 1) + "x", MOST - 1);
        fault(lacking.substring(0, MOST - 1) + "]", MOST - 1);
        fault("1" + terms.substring(1, MOST - 1) + "[", MOST - 1);
    }

    /** Starts of texts, and all letters that can stand behind them. */
    private static final String[][] STARTS = {
        {"", "-[" + DIGITS}, {"-", "[" + DIGITS}, {"0", "[" + DIGITS}, {"9", "[" + DIGITS}, {"00", "[" + DIGITS},
        {"12", "[" + DIGITS}, {"000", "["}, {"999", "["}, {"-123", "["}, {"[", "]12345678"}, {"5[", "]12345678"},
        {"[1", "]1"}, {"[2", "]12"}, {"[4", "]1234"}, {"[5", "]123"}, {"[6", "]12"}, {"[7", "]1"}, {"[8", "]"},
        {"[44", "]"}, {"[43", "]1"}, {"[33", "]12"}, {"[22", "]12"}, {"[222", "]12"}, {"[2222", "]"}, {"[1111111", "]1"},
        {"[11111111", "]"}, {"[]", "+-"}, {"[8]", "+-"}, {"[]+", "[" + DIGITS}, {"[8]-", "[" + DIGITS}, {"[]+[", "]"},
        {"[]-12", "[" + DIGITS}, {"[]-123", "["}, {"[1]+[", "1"}, {"[1]+[1", "]"}, {"[3]+[", "123"}, {"[3]+[1", "1"},
        {"[3]+[2", "1"}, {"[3]+[11", "1"}, {"[3]+[21", "]"}, {"[3]+[3", "]"}, {"[4]+[2", "12"}, {"[8]+[", "12345678"},
        {"[8]+[4", "1234"}, {"[8]+[5", "123"}, {"[8]+[8", "]"}, {"[8]+[71", "]"}, {"[8]+[8]", "+-"}, {"[2]+[2]+[", "12"},
    };

    // "the place (from 0) of the first letter that can't stand there, read from the left, not ahead"
    private static void eachLetterAtEachPlace() {
        for (String[] start : STARTS) {
            int place = start[0].length();
            for (int c = 0; c <= 255; c++) {
                CharactersMultiplied x = new CharactersMultiplied();
                Calls.letters(x, start[0]);
                x.letter(c);
                int got = x.reads(0);
                String call = "reads of " + start[0] + " and " + c;
                if (start[1].indexOf(c) < 0) {
                    due(call, got, -1000 - place);
                } else if (c != ']') {
                    due(call, got, -1000 - place - 1);
                } else {
                    CHECK.holds(call, got > 0);
                }
            }
        }
    }

    // "perhaps -, TERM": one - at most, and no + ahead of the first
    private static void perhapsMinus() {
        tells("[2]", 2, 1, 0);
        tells("-[2]", 2, -1, 0);
        tells("-5[2]", 2, -5, 0);
        fault("--[2]", 1);
        fault("+[2]", 0);
        fault("-+[2]", 1);
        fault("-", 1);
    }

    // "then any number of times + or - and TERM"
    private static void onceOrMoreTerms() {
        tells("[2]+[11]", 2, 1, 1);
        tells("[2]-[11]", 2, 1, -1);
        tells("-[2]+[11]", 2, -1, 1);
        tells("-[2]-[11]", 2, -1, -1);
        tells("[]" + "+[]".repeat(23), 0, 24);
        fault("[2]+-[11]", 4);
        fault("[2]-+[11]", 4);
        fault("[2]--[11]", 4);
        fault("[2][11]", 3);
        fault("[2]5[11]", 3);
    }

    // "perhaps a number (1 to 3 digits, as many as stand there ..)"
    private static void numberOf1To3Digits() {
        tells("1[2]", 2, 1, 0);
        tells("9[2]", 2, 9, 0);
        tells("10[2]", 2, 10, 0);
        tells("99[2]", 2, 99, 0);
        tells("100[2]", 2, 100, 0);
        tells("999[2]-999[11]", 2, 999, -999);
        fault("1000[2]", 3);
        fault("[2]+1000[2]", 7);
        fault("-1000[2]", 4);
    }

    // "0 ahead, or alone, too"
    private static void number0() {
        tells("0[2]", 2, 0, 0);
        tells("-0[2]", 2, 0, 0);
        tells("00[2]", 2, 0, 0);
        tells("000[2]", 2, 0, 0);
        tells("01[2]", 2, 1, 0);
        tells("007[2]", 2, 7, 0);
        tells("090[2]", 2, 90, 0);
        stands("0[2]", 0);
        stands("0[2]+[11]", 1);
        fault("0000[2]", 3);
        fault("0001[2]", 3);
    }

    // "ROWS: digits 1 .. 8, .. or none"
    private static void rowsOrNone() {
        for (int row = 1; row <= 8; row++) {
            tells("[" + row + "]", row, 1);
        }
        tells("[]", 0, 1);
        fault("[0]", 1);
        fault("[9]", 1);
        fault("[10]", 2);
        fault("[-1]", 1);
        fault("[+1]", 1);
        fault("[1,1]", 2);
    }

    // "each no greater than the one ahead"
    private static void rowsNotGreater() {
        tells("[22]", 4, 0, 0, 1, 0, 0);
        tells("[211]", 4, 0, 0, 0, 1, 0);
        fault("[12]", 2);
        fault("[23]", 2);
        fault("[212]", 3);
        fault("[1112]", 4);
        fault("[18]", 2);
    }

    // "all TERMS have one SIZE", "above that of the first TERM; a ] where the SIZE is less than that"
    private static void sizesOfAllTerms() {
        fault("[]+[1]", 4);
        fault("[1]+[]", 5);
        fault("[1]+[2]", 5);
        fault("[2]+[1]", 6);
        fault("[2]+[111]", 7);
        fault("[21]+[31]", 7);
        fault("[21]+[22]", 7);
        fault("[21]+[2]", 7);
        fault("[7]+[8]", 5);
        fault("[7]+[71]", 6);
        fault("[8]+[7]", 6);
        fault("[3]+[3]+[21]+[2]", 15);
        stands("[3]+[3]+[21]+[111]", 3);
        stands("[8]+[11111111]", 2);
    }

    // "a digit by which the SIZE would be above 8"
    private static void sizeAbove8() {
        stands("[8]", 1);
        fault("[81]", 2);
        stands("[44]", 1);
        fault("[441]", 3);
        fault("[54]", 2);
        stands("[53]", 1);
        fault("[333]", 3);
        stands("[332]", 1);
        stands("[11111111]", 1);
        fault("[111111111]", 9);
        fault("[71]+[711]", 8);
    }

    // "the number of letters, if something lacks"
    private static void somethingLacks() {
        fault("", 0);
        fault("-", 1);
        fault("7", 1);
        fault("12", 2);
        fault("123", 3);
        fault("[", 1);
        fault("[2", 2);
        fault("[8", 2);
        fault("[2]+", 4);
        fault("[2]-", 4);
        fault("[2]-7", 5);
        fault("[2]-[", 5);
        fault("[2]-[1", 6);
        fault("[2]-[11", 7);
    }

    // "the first letter that can't stand there": what is behind it does not count
    private static void theFirstFault() {
        fault("x", 0);
        fault("xx[2]", 0);
        fault("[2x]y", 2);
        fault("[12]+[99]", 2);
        fault("12345[2]+", 3);
        fault("]" + "[2]", 0);
        fault("[2]+[3]+[9", 5);
        fault("[2]+[1]+[11]", 6);
    }

    // "without blanks"
    private static void withoutBlanks() {
        String text = "-12[2]+[11]";
        for (int place = 0; place <= text.length(); place++) {
            fault(text.substring(0, place) + " " + text.substring(place), place);
        }
    }

    // "What TERMS of one SHAPE have is added up."
    private static void addedUp() {
        tells("[2]+[2]", 2, 2, 0);
        tells("999[2]+[2]", 2, 1000, 0);
        tells("5[2]-5[2]", 2, 0, 0);
        stands("5[2]-5[2]", 0);
        tells("-[2]+3[11]-[2]-4[11]", 2, -2, -1);
        tells("-999[]".repeat(12), 0, -999 * 12);
        tells("0[11]+[11]+0[2]", 2, 0, 1);
    }

    // "what .. a SUM's text without FAULT did": with one the SUM is as it was, but the letters are no more
    private static void faultLeavesTheSum() {
        CharactersMultiplied x = new CharactersMultiplied();
        Calls.reads(x, 1, "7[2]-8[11]");
        due("a fault behind two terms", Calls.reads(x, 1, "[3]+[21]+"), -1009);
        Calls.holds(CHECK, x, 1, 2, 7, -8);
        due("letters behind the fault", x.count(1), 0);
        due("the next text", Calls.reads(x, 1, "[2]"), 1);
        Calls.holds(CHECK, x, 1, 2, 1, 0);
        due("what can be undone", x.count(3), 2);
    }

    // "The letters become a SUM": nothing of what the SUM was stays
    private static void readsOverAnotherSum() {
        CharactersMultiplied x = new CharactersMultiplied();
        Calls.reads(x, 0, "[8]+2[71]+3[11111111]");
        Calls.reads(x, 0, "4[2]");
        Calls.holds(CHECK, x, 0, 2, 4, 0);
        due("of the size it had", x.coefficient(0, 66), 0);
        due("terms", x.sum(0, 1), 1);
        due("inner", x.inner(0, 0), 16);
        Calls.reads(x, 0, "0[8]");
        for (int shape = 45; shape <= 66; shape++) {
            due("coefficient(0, " + shape + ")", x.coefficient(0, shape), 0);
        }
        due("another sum", x.sum(1, 0), -11);
    }

    // Promise 17: "-1 (the letters stay)", SUMS 0 .. 3
    private static void readsOfNoSum() {
        CharactersMultiplied x = new CharactersMultiplied();
        Calls.letters(x, "[2");
        due("reads(-1)", x.reads(-1), -1);
        due("reads(4)", x.reads(4), -1);
        due("reads(greatest)", x.reads(Integer.MAX_VALUE), -1);
        due("letters", x.count(1), 2);
        due("one more", x.letter(']'), 3);
        due("reads(3)", x.reads(3), 1);
        due("reads(0) of no letters", x.reads(0), -1000);
        due("reads(4) of no letters", x.reads(4), -1);
        Calls.refused(CHECK, x, 4, 0, 0, 0, 0);
    }
}
