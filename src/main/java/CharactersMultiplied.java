/**
 * Characters of orders multiplied: shapes of up to eight cells, their hooks,
 * rims, classes and characters, the numbers of their products, sums of shapes,
 * and lists of numbers. The document DOC.md says what each call answers.
 *
 * Nothing is made after the constructor: every call works in rows made there.
 */
public final class CharactersMultiplied {

    private static final int NOBODY = -1;
    private static final int OTHER = -2;
    private static final int STATE = -3;
    private static final int BELOW = -4;
    private static final int ROOM = -6;
    private static final int NONE = -9;
    private static final int MISSING = -11;
    private static final int NO_PLACE = -13;
    private static final int NO_LENGTH = -14;

    private static final int FAR = 1000000000;
    private static final long FAR_LONG = 4000000000000000000L;
    private static final int FAULT = -1000;

    private static final int GREATEST_SIZE = 8;
    private static final int GREATEST_TO_GROW = 4;
    private static final int SHAPES = 67;
    /** How many SHAPES the greatest SIZE has: no SIZE has more. */
    private static final int WIDEST = 22;
    private static final int MOST_LOTS = 50;
    private static final int ROW_QUESTIONS = 10;
    private static final int REFUSAL_QUESTIONS = 10;
    private static final int REFUSALS = 6;

    private final Shapes shapes;
    private final Rims rims;
    private final Kinds kinds;
    private final Characters characters;
    private final Numbers numbers;
    private final Sums sums;
    private final Arithmetic arithmetic;
    private final Letters letters;
    private final Lists lists;
    private final int[] refusals;

    public CharactersMultiplied() {
        Shapes ofShapes = new Shapes();
        Rims ofRims = new Rims(ofShapes);
        Characters ofCharacters = new Characters(ofShapes, ofRims);
        Numbers ofNumbers = new Numbers(ofShapes, ofCharacters);
        Sums ofSums = new Sums();
        shapes = ofShapes;
        rims = ofRims;
        kinds = new Kinds(ofShapes);
        characters = ofCharacters;
        numbers = ofNumbers;
        sums = ofSums;
        arithmetic = new Arithmetic(ofShapes, ofRims, ofCharacters, ofNumbers, ofSums);
        letters = new Letters(ofShapes, ofSums);
        lists = new Lists();
        refusals = new int[REFUSALS + 1];
    }

    // ---- shapes

    public int of(int shape, int what) {
        if (!shapes.has(shape)) {
            return refuse(NOBODY);
        }
        if (what >= ROW_QUESTIONS && what < ROW_QUESTIONS + GREATEST_SIZE) {
            return shapes.row(shape, what - ROW_QUESTIONS);
        }
        switch (what) {
            case 0: return shapes.sizeOf(shape);
            case 1: return shapes.lengthOf(shape);
            case 2: return shapes.turnedOf(shape);
            case 3: return rims.dimensionOf(shape);
            case 4: return shapes.ordersOf(shape);
            case 5: return kinds.bitsOf(shape);
            default: return refuse(OTHER);
        }
    }

    public int shape(int list) {
        if (!lists.has(list)) {
            return refuse(NOBODY);
        }
        return lists.isMissing(list) ? MISSING : shapeTold(list);
    }

    private int shapeTold(int list) {
        int key = 0;
        int size = 0;
        int last = GREATEST_SIZE;
        for (int i = 0; i < lists.lengthOf(list); i++) {
            int row = lists.at(list, i);
            // The row is looked at first, so that the size can't run over.
            if (row < 1 || row > last || size + row > GREATEST_SIZE) {
                return NONE;
            }
            key = Shapes.keyWith(key, row);
            size += row;
            last = row;
        }
        return shapes.find(size, key);
    }

    public int shapes(int size, int what) {
        if (size < 0) {
            return refuse(BELOW);
        }
        if (size > GREATEST_SIZE) {
            return refuse(ROOM);
        }
        switch (what) {
            case 0: return shapes.firstOf(size);
            case 1: return shapes.countOf(size);
            default: return refuse(OTHER);
        }
    }

    public int hook(int shape, int r, int c) {
        if (!shapes.has(shape) || !shapes.hasCell(shape, r, c)) {
            return refuse(NOBODY);
        }
        return shapes.hookAt(shape, r, c);
    }

    public int rims(int shape, int k, int i) {
        if (!shapes.has(shape)) {
            return refuse(NOBODY);
        }
        if (k < 1 || i < -1) {
            return refuse(BELOW);
        }
        if (k > GREATEST_SIZE) {
            return refuse(ROOM);
        }
        if (i == -1) {
            return rims.howMany(shape, k);
        }
        int cell = rims.cellOf(shape, k, i);
        return cell < 0 ? NONE : rims.leftBy(shape, cell);
    }

    public int height(int shape, int k, int i) {
        if (!shapes.has(shape)) {
            return refuse(NOBODY);
        }
        if (k < 1 || i < 0) {
            return refuse(BELOW);
        }
        if (k > GREATEST_SIZE) {
            return refuse(ROOM);
        }
        int cell = rims.cellOf(shape, k, i);
        return cell < 0 ? NONE : rims.heightBy(shape, cell);
    }

    public int character(int shape, int atClass) {
        if (!shapes.has(shape) || !shapes.has(atClass)) {
            return refuseFar(NOBODY);
        }
        if (!shapes.alike(shape, atClass)) {
            return refuseFar(STATE);
        }
        return characters.at(shape, atClass);
    }

    public long odds(int size, int kind, int part) {
        if (size < 0) {
            return refuseFarLong(BELOW);
        }
        if (size > GREATEST_SIZE) {
            return refuseFarLong(ROOM);
        }
        if (kind < 0 || kind >= Kinds.KINDS || part < 0 || part > 1) {
            return refuseFarLong(OTHER);
        }
        int above = kinds.howMany(size, kind);
        int below = shapes.countOf(size);
        return inLeastTerms(part == 0 ? above : below, above, below);
    }

    /** The greatest that divides 0 and a number is the number itself, which makes 0 by 1. */
    private static int inLeastTerms(int part, int above, int below) {
        for (int divisor = below; divisor > 1; divisor--) {
            if (above % divisor == 0 && below % divisor == 0) {
                return part / divisor;
            }
        }
        return part;
    }

    // ---- numbers

    public int number(int one, int two, int three) {
        if (!shapes.has(one) || !shapes.has(two) || !shapes.has(three)) {
            return refuse(NOBODY);
        }
        if (!shapes.alike(one, two) || !shapes.alike(one, three)) {
            return refuse(STATE);
        }
        return numbers.at(one, two, three);
    }

    public int product(int one, int two, int i) {
        if (!shapes.has(one) || !shapes.has(two)) {
            return refuse(NOBODY);
        }
        if (!shapes.alike(one, two)) {
            return refuse(STATE);
        }
        if (i < -1) {
            return refuse(BELOW);
        }
        return i == -1 ? numbers.lengthOfProduct(one, two) : numbers.partOfProduct(one, two, i);
    }

    public int greatest(int one, int two) {
        if (!shapes.has(one) || !shapes.has(two)) {
            return refuse(NOBODY);
        }
        if (!shapes.alike(one, two)) {
            return refuse(STATE);
        }
        return numbers.greatestInProduct(one, two);
    }

    public int grown(int shape, int n) {
        if (!shapes.has(shape)) {
            return refuse(NOBODY);
        }
        if (n < 0) {
            return refuse(BELOW);
        }
        if (n > GREATEST_SIZE) {
            return refuse(ROOM);
        }
        return canGrow(shape) ? shapes.grownTo(shape, n) : refuse(STATE);
    }

    private boolean canGrow(int shape) {
        return shapes.sizeOf(shape) <= GREATEST_TO_GROW;
    }

    public int settled(int one, int two, int three, int what) {
        if (!shapes.has(one) || !shapes.has(two) || !shapes.has(three)) {
            return refuse(NOBODY);
        }
        if (what != 0 && what != 1) {
            return refuse(OTHER);
        }
        if (!canGrow(one) || !canGrow(two) || !canGrow(three)) {
            return refuse(STATE);
        }
        int atLast = numbers.grownTo(one, two, three, GREATEST_SIZE);
        if (atLast < 0 || what == 1) {
            return atLast;
        }
        int least = GREATEST_SIZE;
        while (least > 0 && numbers.grownTo(one, two, three, least - 1) == atLast) {
            least--;
        }
        return least;
    }

    public int lots(int size, int n, int z, int what) {
        if (size < 1 || n < 1) {
            return refuse(BELOW);
        }
        if (size > GREATEST_SIZE || n > MOST_LOTS) {
            return refuse(ROOM);
        }
        if (what != 0 && what != 1) {
            return refuse(OTHER);
        }
        int seed = z;
        int above = 0;
        int together = 0;
        for (int i = 0; i < n; i++) {
            seed = nextSeed(seed);
            int one = drawnShape(size, seed);
            seed = nextSeed(seed);
            int two = drawnShape(size, seed);
            int found = numbers.at(one, one, two);
            if (found > 0) {
                above++;
            }
            together += found;
        }
        return what == 0 ? above : together;
    }

    private static int nextSeed(int seed) {
        return seed * 1664525 + 1013904223;
    }

    private int drawnShape(int size, int seed) {
        int count = shapes.countOf(size);
        int drawn = count > 0 ? (seed & 0x7fffffff) / 256 % count : 0;
        return shapes.firstOf(size) + drawn;
    }

    // ---- sums

    public int letter(int c) {
        if (c < 0) {
            return refuse(BELOW);
        }
        if (c > 255 || letters.areFull()) {
            return refuse(ROOM);
        }
        letters.add(c);
        return letters.howMany();
    }

    public int reads(int sum) {
        if (!sums.has(sum)) {
            return refuse(NOBODY);
        }
        int fault = letters.readToDraft();
        letters.forget();
        return fault == Letters.NO_FAULT ? keepDraft(sum) : FAULT - fault;
    }

    private int keepDraft(int sum) {
        sums.keepDraft(sum);
        return sums.termsOf(sum);
    }

    public int clear(int sum) {
        if (!sums.has(sum)) {
            return refuse(NOBODY);
        }
        int was = sums.isMissing(sum) ? 0 : 1;
        sums.draftMissing();
        sums.keepDraft(sum);
        return was;
    }

    public int sum(int sum, int what) {
        if (!sums.has(sum)) {
            return refuse(NOBODY);
        }
        if (what < 0 || what > 2) {
            return refuse(OTHER);
        }
        if (sums.isMissing(sum)) {
            return MISSING;
        }
        switch (what) {
            case 0: return sums.sizeOf(sum);
            case 1: return sums.termsOf(sum);
            default: return firstTerm(sum);
        }
    }

    private int firstTerm(int sum) {
        int place = sums.firstTermOf(sum);
        return place < 0 ? NONE : shapes.firstOf(sums.sizeOf(sum)) + place;
    }

    public int coefficient(int sum, int shape) {
        if (!sums.has(sum) || !shapes.has(shape)) {
            return refuseFar(NOBODY);
        }
        if (sums.isMissing(sum)) {
            return FAR - MISSING;
        }
        boolean ofThatSize = shapes.sizeOf(shape) == sums.sizeOf(sum);
        return ofThatSize ? sums.at(sum, shapes.placeOf(shape)) : 0;
    }

    public int makes(int sum, int one, int other, int what) {
        if (!sums.has(sum) || !sums.has(one) || !sums.has(other)) {
            return refuse(NOBODY);
        }
        if (what < 0 || what > 2) {
            return refuse(OTHER);
        }
        if (sums.isMissing(one) || sums.isMissing(other)) {
            return MISSING;
        }
        if (sums.sizeOf(one) != sums.sizeOf(other)) {
            return refuse(STATE);
        }
        boolean fits;
        switch (what) {
            case 0: fits = arithmetic.draftsPlus(one, other, 1); break;
            case 1: fits = arithmetic.draftsPlus(one, other, -1); break;
            default: fits = arithmetic.draftsTimes(one, other); break;
        }
        return fits ? keepDraft(sum) : refuse(ROOM);
    }

    public int changed(int sum, int what) {
        if (!sums.has(sum)) {
            return refuse(NOBODY);
        }
        if (what < 0 || what > 2) {
            return refuse(OTHER);
        }
        if (sums.isMissing(sum)) {
            return MISSING;
        }
        int size = sums.sizeOf(sum);
        if ((what == 1 && size < 1) || (what == 2 && size >= GREATEST_SIZE)) {
            return refuse(STATE);
        }
        boolean fits;
        switch (what) {
            case 0: fits = arithmetic.draftsAbout(sum); break;
            case 1: fits = arithmetic.draftsRestricted(sum); break;
            default: fits = arithmetic.draftsInduced(sum); break;
        }
        return fits ? keepDraft(sum) : refuse(ROOM);
    }

    public long value(int sum, int atClass) {
        if (!sums.has(sum) || !shapes.has(atClass)) {
            return refuseFarLong(NOBODY);
        }
        if (sums.isMissing(sum)) {
            return FAR_LONG - MISSING;
        }
        if (shapes.sizeOf(atClass) != sums.sizeOf(sum)) {
            return refuseFarLong(STATE);
        }
        return arithmetic.valueAt(sum, atClass);
    }

    public long inner(int one, int other) {
        if (!sums.has(one) || !sums.has(other)) {
            return refuseFarLong(NOBODY);
        }
        if (sums.isMissing(one) || sums.isMissing(other)) {
            return FAR_LONG - MISSING;
        }
        if (sums.sizeOf(one) != sums.sizeOf(other)) {
            return refuseFarLong(STATE);
        }
        return arithmetic.innerOf(one, other);
    }

    // ---- lists of numbers

    public int list(int list, int n) {
        if (!lists.has(list)) {
            return refuse(NOBODY);
        }
        if (n > Lists.LONGEST) {
            return refuse(ROOM);
        }
        if (n < 0) {
            return NO_LENGTH;
        }
        lists.begin(list, n);
        return 1;
    }

    public int put(int list, int i, int v) {
        if (!lists.has(list)) {
            return refuse(NOBODY);
        }
        if (lists.isMissing(list)) {
            return MISSING;
        }
        if (!lists.hasPlace(list, i)) {
            return NO_PLACE;
        }
        lists.store(list, i, v);
        return 1;
    }

    public long look(int list, int i) {
        if (!lists.has(list)) {
            return refuseFarLong(NOBODY);
        }
        if (lists.isMissing(list)) {
            return FAR_LONG - MISSING;
        }
        return lists.hasPlace(list, i) ? lists.at(list, i) : FAR_LONG - NO_PLACE;
    }

    public int lays(int list, int i, int shape) {
        if (!lists.has(list) || !shapes.has(shape)) {
            return refuse(NOBODY);
        }
        if (lists.isMissing(list)) {
            return MISSING;
        }
        int count = shapes.countOf(shapes.sizeOf(shape));
        if (i < 0 || i > lists.lengthOf(list) - count) {
            return NO_PLACE;
        }
        for (int place = 0; place < count; place++) {
            lists.store(list, i + place, characters.atPlace(shape, place));
        }
        return count;
    }

    public int judge(int list, int shape) {
        if (!lists.has(list) || !shapes.has(shape)) {
            return refuse(NOBODY);
        }
        return lists.isMissing(list) ? MISSING : firstOtherwise(list, shape);
    }

    private int firstOtherwise(int list, int shape) {
        int count = shapes.countOf(shapes.sizeOf(shape));
        for (int place = 0; place < lists.lengthOf(list); place++) {
            if (place >= count || lists.at(list, place) != characters.atPlace(shape, place)) {
                return place;
            }
        }
        return NONE;
    }

    public int which(int list, int size, int what) {
        if (!lists.has(list)) {
            return refuse(NOBODY);
        }
        if (size < 0) {
            return refuse(BELOW);
        }
        if (size > GREATEST_SIZE) {
            return refuse(ROOM);
        }
        if (what != 0 && what != 1) {
            return refuse(OTHER);
        }
        if (lists.isMissing(list)) {
            return MISSING;
        }
        return what == 0 ? howManyBegin(list, size) : leastThatBegins(list, size);
    }

    private int howManyBegin(int list, int size) {
        int many = 0;
        int end = shapes.firstOf(size) + shapes.countOf(size);
        for (int shape = shapes.firstOf(size); shape < end; shape++) {
            if (firstOtherwise(list, shape) == NONE) {
                many++;
            }
        }
        return many;
    }

    private int leastThatBegins(int list, int size) {
        int end = shapes.firstOf(size) + shapes.countOf(size);
        for (int shape = shapes.firstOf(size); shape < end; shape++) {
            if (firstOtherwise(list, shape) == NONE) {
                return shape;
            }
        }
        return NONE;
    }

    // ---- the image

    public int undo() {
        return sums.undoLatest() ? sums.howManyUndos() : refuse(STATE);
    }

    public int image() {
        sums.takeImage();
        return sums.howMany();
    }

    public int on() {
        return sums.goOnFromImage() ? sums.howMany() : refuse(STATE);
    }

    public int count(int what) {
        if (what > REFUSAL_QUESTIONS && what <= REFUSAL_QUESTIONS + REFUSALS) {
            return refusals[what - REFUSAL_QUESTIONS];
        }
        switch (what) {
            case 0: return sums.howMany();
            case 1: return letters.howMany();
            case 2: return sums.termsOfAll();
            case 3: return sums.howManyUndos();
            default: return NONE;
        }
    }

    private int refuse(int refusal) {
        int which = -refusal;
        if (which >= 1 && which <= REFUSALS) {
            refusals[which]++;
        }
        return refusal;
    }

    private int refuseFar(int refusal) {
        return FAR - refuse(refusal);
    }

    private long refuseFarLong(int refusal) {
        return FAR_LONG - refuse(refusal);
    }

    /** All SHAPES by their numbers: rows, columns, hooks, and what they are as CLASSES. */
    private static final class Shapes {

        /** One hexadecimal digit a row, so that rows are compared and looked for as one int. */
        private static final int[] KEYS = {
            0x0,
            0x1,
            0x2, 0x11,
            0x3, 0x21, 0x111,
            0x4, 0x31, 0x22, 0x211, 0x1111,
            0x5, 0x41, 0x32, 0x311, 0x221, 0x2111, 0x11111,
            0x6, 0x51, 0x42, 0x411, 0x33, 0x321, 0x3111, 0x222, 0x2211, 0x21111, 0x111111,
            0x7, 0x61, 0x52, 0x511, 0x43, 0x421, 0x4111, 0x331, 0x322, 0x3211, 0x31111,
            0x2221, 0x22111, 0x211111, 0x1111111,
            0x8, 0x71, 0x62, 0x611, 0x53, 0x521, 0x5111, 0x44, 0x431, 0x422, 0x4211, 0x41111,
            0x332, 0x3311, 0x3221, 0x32111, 0x311111, 0x2222, 0x22211, 0x221111, 0x2111111,
            0x11111111,
        };
        /** The first SHAPE of each SIZE, and behind them where the SHAPES end. */
        private static final int[] FIRST = {0, 1, 2, 4, 7, 12, 19, 30, 45, 67};
        private static final int[] FACTORIALS = {1, 1, 2, 6, 24, 120, 720, 5040, 40320};
        private static final int DIGIT = 4;
        private static final int DIGIT_MASK = 15;

        private final int[] rows = new int[SHAPES * GREATEST_SIZE];
        private final int[] lengths = new int[SHAPES];
        private final int[] sizes = new int[SHAPES];
        private final int[] rests = new int[SHAPES];
        private final int[] orders = new int[SHAPES];

        Shapes() {
            for (int shape = 0; shape < SHAPES; shape++) {
                readRows(shape);
            }
            for (int shape = 0; shape < SHAPES; shape++) {
                rests[shape] = find(sizeOf(shape) - row(shape, 0), keyWithRows(0, shape, 1));
                orders[shape] = countOrders(shape);
            }
        }

        private void readRows(int shape) {
            int start = shape * GREATEST_SIZE;
            int length = 0;
            int size = 0;
            for (int digit = GREATEST_SIZE - 1; digit >= 0; digit--) {
                int row = KEYS[shape] >> digit * DIGIT & DIGIT_MASK;
                if (row > 0 && length < GREATEST_SIZE) {
                    rows[start + length] = row;
                    length++;
                    size += row;
                }
            }
            lengths[shape] = length;
            sizes[shape] = size;
        }

        private int countOrders(int shape) {
            int divisor = 1;
            int alike = 0;
            for (int i = 0; i < lengthOf(shape); i++) {
                alike = i > 0 && row(shape, i) == row(shape, i - 1) ? alike + 1 : 1;
                divisor *= row(shape, i) * alike;
            }
            return divisor > 0 ? factorial(sizeOf(shape)) / divisor : 0;
        }

        static int factorial(int size) {
            return size >= 0 && size < FACTORIALS.length ? FACTORIALS[size] : 0;
        }

        /** The key of rows with one row more behind them. */
        static int keyWith(int key, int row) {
            return key << DIGIT | row;
        }

        /** The key of rows with those of a SHAPE, from one on, behind them. */
        private int keyWithRows(int ahead, int shape, int firstRow) {
            int key = ahead;
            for (int r = firstRow; r < lengthOf(shape); r++) {
                key = keyWith(key, row(shape, r));
            }
            return key;
        }

        /** The SHAPE with these rows, -1 if there is none. */
        int find(int size, int key) {
            int end = firstOf(size) + countOf(size);
            for (int shape = firstOf(size); shape < end; shape++) {
                if (KEYS[shape] == key) {
                    return shape;
                }
            }
            return -1;
        }

        boolean has(int shape) {
            return shape >= 0 && shape < SHAPES;
        }

        int sizeOf(int shape) {
            return has(shape) ? sizes[shape] : 0;
        }

        int lengthOf(int shape) {
            return has(shape) ? lengths[shape] : 0;
        }

        /** The CLASS without its first row. */
        int restOf(int shape) {
            return has(shape) ? rests[shape] : 0;
        }

        int ordersOf(int shape) {
            return has(shape) ? orders[shape] : 0;
        }

        boolean alike(int one, int two) {
            return sizeOf(one) == sizeOf(two);
        }

        int firstOf(int size) {
            return size >= 0 && size <= GREATEST_SIZE ? FIRST[size] : 0;
        }

        int countOf(int size) {
            return size >= 0 && size <= GREATEST_SIZE ? FIRST[size + 1] - FIRST[size] : 0;
        }

        /** Which of the SHAPES of its SIZE it is, from 0 on. */
        int placeOf(int shape) {
            return shape - firstOf(sizeOf(shape));
        }

        int row(int shape, int r) {
            boolean there = has(shape) && r >= 0 && r < GREATEST_SIZE;
            return there ? rows[shape * GREATEST_SIZE + r] : 0;
        }

        int column(int shape, int c) {
            int cells = 0;
            while (cells < GREATEST_SIZE && c < row(shape, cells)) {
                cells++;
            }
            return cells;
        }

        boolean hasCell(int shape, int r, int c) {
            return r >= 0 && c >= 0 && c < row(shape, r);
        }

        int hookAt(int shape, int r, int c) {
            int right = row(shape, r) - 1 - c;
            int below = column(shape, c) - 1 - r;
            return right + below + 1;
        }

        int turnedOf(int shape) {
            int key = 0;
            for (int c = 0; c < row(shape, 0); c++) {
                key = keyWith(key, column(shape, c));
            }
            return find(sizeOf(shape), key);
        }

        int grownTo(int shape, int n) {
            int ahead = n - sizeOf(shape);
            if (ahead < row(shape, 0) || n > GREATEST_SIZE) {
                return NONE;
            }
            return find(n, keyWithRows(ahead, shape, 0));
        }
    }

    /** What every CELL of every SHAPE takes off as a RIM; CELLS are counted row by row. */
    private static final class Rims {

        private final Shapes shapes;
        private final int[] hooks = new int[SHAPES * GREATEST_SIZE];
        private final int[] lefts = new int[SHAPES * GREATEST_SIZE];
        private final int[] heights = new int[SHAPES * GREATEST_SIZE];

        Rims(Shapes ofShapes) {
            shapes = ofShapes;
            for (int shape = 0; shape < SHAPES; shape++) {
                int cell = 0;
                for (int r = 0; r < ofShapes.lengthOf(shape); r++) {
                    for (int c = 0; c < ofShapes.row(shape, r); c++) {
                        note(shape, cell, r, c);
                        cell++;
                    }
                }
            }
        }

        private void note(int shape, int cell, int r, int c) {
            if (has(shape, cell)) {
                int at = shape * GREATEST_SIZE + cell;
                int end = shapes.column(shape, c) - 1;
                hooks[at] = shapes.hookAt(shape, r, c);
                heights[at] = end - r;
                lefts[at] = shapeLeft(shape, r, end, c);
            }
        }

        private int shapeLeft(int shape, int start, int end, int c) {
            int key = 0;
            int size = 0;
            for (int r = 0; r < shapes.lengthOf(shape); r++) {
                int row = shapes.row(shape, r);
                if (r >= start && r < end) {
                    row = shapes.row(shape, r + 1) - 1;
                } else if (r == end) {
                    row = c;
                }
                if (row > 0) {
                    key = Shapes.keyWith(key, row);
                    size += row;
                }
            }
            return shapes.find(size, key);
        }

        private boolean has(int shape, int cell) {
            return shapes.has(shape) && cell >= 0 && cell < GREATEST_SIZE;
        }

        int hookBy(int shape, int cell) {
            return has(shape, cell) ? hooks[shape * GREATEST_SIZE + cell] : 0;
        }

        int leftBy(int shape, int cell) {
            return has(shape, cell) ? lefts[shape * GREATEST_SIZE + cell] : 0;
        }

        int heightBy(int shape, int cell) {
            return has(shape, cell) ? heights[shape * GREATEST_SIZE + cell] : 0;
        }

        int howMany(int shape, int k) {
            int many = 0;
            for (int cell = 0; cell < shapes.sizeOf(shape); cell++) {
                if (hookBy(shape, cell) == k) {
                    many++;
                }
            }
            return many;
        }

        /** The CELL of the i-th of the RIMS of k, -1 if there are not so many. */
        int cellOf(int shape, int k, int i) {
            int ahead = 0;
            for (int cell = 0; cell < shapes.sizeOf(shape); cell++) {
                if (hookBy(shape, cell) == k) {
                    if (ahead == i) {
                        return cell;
                    }
                    ahead++;
                }
            }
            return -1;
        }

        int dimensionOf(int shape) {
            int divisor = 1;
            for (int cell = 0; cell < shapes.sizeOf(shape); cell++) {
                divisor *= hookBy(shape, cell);
            }
            return divisor > 0 ? Shapes.factorial(shapes.sizeOf(shape)) / divisor : 0;
        }
    }

    /** Tells the KINDS of SHAPES apart. */
    private static final class Kinds {

        static final int KINDS = 7;

        private static final int LINE = 0;
        private static final int COLUMN = 1;
        private static final int TWO = 2;
        private static final int CORNER = 3;
        private static final int EVEN = 4;
        private static final int BLOCK = 5;
        private static final int STAIRS = 6;

        private final Shapes shapes;

        Kinds(Shapes ofShapes) {
            shapes = ofShapes;
        }

        int bitsOf(int shape) {
            int bits = 0;
            for (int kind = 0; kind < KINDS; kind++) {
                if (isOf(shape, kind)) {
                    bits |= 1 << kind;
                }
            }
            return bits;
        }

        int howMany(int size, int kind) {
            int many = 0;
            int end = shapes.firstOf(size) + shapes.countOf(size);
            for (int shape = shapes.firstOf(size); shape < end; shape++) {
                if (isOf(shape, kind)) {
                    many++;
                }
            }
            return many;
        }

        private boolean isOf(int shape, int kind) {
            int length = shapes.lengthOf(shape);
            switch (kind) {
                case LINE: return length <= 1;
                case COLUMN: return shapes.row(shape, 0) <= 1;
                case TWO: return length <= 2;
                case CORNER: return length >= 1 && shapes.row(shape, 1) <= 1;
                case EVEN: return shapes.turnedOf(shape) == shape;
                case BLOCK: return length == 0 || shapes.row(shape, 0) == shapes.row(shape, length - 1);
                case STAIRS: return isStairs(shape, length);
                default: return false;
            }
        }

        private boolean isStairs(int shape, int length) {
            for (int r = 0; r < length; r++) {
                if (shapes.row(shape, r) != length - r) {
                    return false;
                }
            }
            return true;
        }
    }

    /** The CHARACTER of every SHAPE at every CLASS of its SIZE. */
    private static final class Characters {

        private final Shapes shapes;
        private final int[] table = new int[SHAPES * WIDEST];

        /** What is left of a SHAPE has a lesser number, so its CHARACTERS stand already. */
        Characters(Shapes ofShapes, Rims ofRims) {
            shapes = ofShapes;
            table[0] = 1;
            for (int shape = 1; shape < SHAPES; shape++) {
                for (int cell = 0; cell < ofShapes.sizeOf(shape); cell++) {
                    int sign = ofRims.heightBy(shape, cell) % 2 == 0 ? 1 : -1;
                    addRim(shape, ofRims.hookBy(shape, cell), ofRims.leftBy(shape, cell), sign);
                }
            }
        }

        /** What a RIM of k brings to the CHARACTERS at all CLASSES that begin with k. */
        private void addRim(int shape, int k, int left, int sign) {
            int first = shapes.firstOf(shapes.sizeOf(shape));
            int count = shapes.countOf(shapes.sizeOf(shape));
            for (int place = 0; place < count && place < WIDEST; place++) {
                if (shapes.row(first + place, 0) == k) {
                    table[shape * WIDEST + place] += sign * at(left, shapes.restOf(first + place));
                }
            }
        }

        int at(int shape, int atClass) {
            return atPlace(shape, shapes.placeOf(atClass));
        }

        /** The CHARACTER at the CLASS that stands at this place among those of its SIZE. */
        int atPlace(int shape, int place) {
            boolean there = shapes.has(shape) && place >= 0 && place < WIDEST;
            return there ? table[shape * WIDEST + place] : 0;
        }
    }

    /** How often a third SHAPE stands in the product of two: worked out once, when it is asked for. */
    private static final class Numbers {

        /** Where the NUMBERS of a SIZE begin among all, each three SHAPES once in falling order. */
        private static final int[] STARTS = {0, 1, 2, 6, 16, 51, 135, 421, 1101};
        private static final int ALL = 3125;

        private final Shapes shapes;
        private final Characters characters;
        /** One more than the NUMBER, so that 0 tells that it is not known yet. */
        private final int[] known = new int[ALL];

        Numbers(Shapes ofShapes, Characters ofCharacters) {
            shapes = ofShapes;
            characters = ofCharacters;
        }

        /** The NUMBER of three SHAPES of one SIZE. */
        int at(int one, int two, int three) {
            int size = shapes.sizeOf(one);
            return atPlaces(size, shapes.placeOf(one), shapes.placeOf(two), shapes.placeOf(three));
        }

        /** The NUMBER of the SHAPES that stand at these places among those of the SIZE. */
        int atPlaces(int size, int one, int two, int three) {
            int index = indexOf(size, one, two, three);
            if (index < 0 || index >= ALL) {
                return 0;
            }
            if (known[index] == 0) {
                known[index] = workedOut(size, one, two, three) + 1;
            }
            return known[index] - 1;
        }

        private int indexOf(int size, int one, int two, int three) {
            int high = Math.max(one, Math.max(two, three));
            int low = Math.min(one, Math.min(two, three));
            if (size < 0 || size >= STARTS.length || low < 0 || high >= shapes.countOf(size)) {
                return -1;
            }
            int middle = one + two + three - high - low;
            return STARTS[size] + high * (high + 1) * (high + 2) / 6 + middle * (middle + 1) / 2 + low;
        }

        private int workedOut(int size, int one, int two, int three) {
            int first = shapes.firstOf(size);
            long together = 0;
            for (int place = 0; place < shapes.countOf(size); place++) {
                long all = shapes.ordersOf(first + place);
                all *= characters.atPlace(first + one, place);
                all *= characters.atPlace(first + two, place);
                all *= characters.atPlace(first + three, place);
                together += all;
            }
            int divisor = Shapes.factorial(size);
            return divisor > 0 ? (int) (together / divisor) : 0;
        }

        int lengthOfProduct(int one, int two) {
            int many = 0;
            for (int three = first(one); three < end(one); three++) {
                if (at(one, two, three) > 0) {
                    many++;
                }
            }
            return many;
        }

        /** The i-th SHAPE of the PRODUCT, or that it has not so many. */
        int partOfProduct(int one, int two, int i) {
            int ahead = 0;
            for (int three = first(one); three < end(one); three++) {
                if (at(one, two, three) > 0) {
                    if (ahead == i) {
                        return three;
                    }
                    ahead++;
                }
            }
            return NONE;
        }

        int greatestInProduct(int one, int two) {
            int greatest = 0;
            for (int three = first(one); three < end(one); three++) {
                greatest = Math.max(greatest, at(one, two, three));
            }
            return greatest;
        }

        private int first(int shape) {
            return shapes.firstOf(shapes.sizeOf(shape));
        }

        private int end(int shape) {
            return first(shape) + shapes.countOf(shapes.sizeOf(shape));
        }

        /** The NUMBER of all three GROWN to n, or that one of them can't be. */
        int grownTo(int one, int two, int three, int n) {
            int grownOne = shapes.grownTo(one, n);
            int grownTwo = shapes.grownTo(two, n);
            int grownThree = shapes.grownTo(three, n);
            if (grownOne < 0 || grownTwo < 0 || grownThree < 0) {
                return NONE;
            }
            return at(grownOne, grownTwo, grownThree);
        }
    }

    /**
     * The SUMS, their IMAGE, what can be UNDONE, and one DRAFT in which a SUM is
     * made before it is known whether it will be kept. All are slots of one row.
     */
    private static final class Sums {

        private static final int SUMS = 4;
        private static final int IMAGE = SUMS;
        private static final int MOST_UNDOS = 8;
        private static final int UNDOS = IMAGE + SUMS;
        private static final int DRAFT = UNDOS + MOST_UNDOS;
        private static final int SLOTS = DRAFT + 1;
        private static final int NO_SUM = -1;
        private static final int GREATEST_COEFFICIENT = 1000000;

        private final int[] sizes = new int[SLOTS];
        private final int[] coefficients = new int[SLOTS * WIDEST];
        private final int[] undoneSums = new int[MOST_UNDOS];
        private int undos;
        private int nextUndo;
        private boolean imageTaken;

        Sums() {
            for (int slot = 0; slot < SLOTS; slot++) {
                sizes[slot] = NO_SUM;
            }
        }

        boolean has(int sum) {
            return sum >= 0 && sum < SUMS;
        }

        int sizeOf(int sum) {
            return has(sum) ? sizes[sum] : NO_SUM;
        }

        boolean isMissing(int sum) {
            return sizeOf(sum) == NO_SUM;
        }

        /** The COEFFICIENT of the SHAPE that stands at this place among those of its SIZE. */
        int at(int sum, int place) {
            boolean there = has(sum) && place >= 0 && place < WIDEST;
            return there ? coefficients[sum * WIDEST + place] : 0;
        }

        int termsOf(int sum) {
            int terms = 0;
            for (int place = 0; place < WIDEST; place++) {
                if (at(sum, place) != 0) {
                    terms++;
                }
            }
            return terms;
        }

        int firstTermOf(int sum) {
            for (int place = 0; place < WIDEST; place++) {
                if (at(sum, place) != 0) {
                    return place;
                }
            }
            return -1;
        }

        int howMany() {
            int many = 0;
            for (int sum = 0; sum < SUMS; sum++) {
                if (!isMissing(sum)) {
                    many++;
                }
            }
            return many;
        }

        int termsOfAll() {
            int terms = 0;
            for (int sum = 0; sum < SUMS; sum++) {
                terms += termsOf(sum);
            }
            return terms;
        }

        void draftMissing() {
            beginDraft(NO_SUM);
        }

        void beginDraft(int size) {
            sizes[DRAFT] = size;
            for (int place = 0; place < WIDEST; place++) {
                coefficients[DRAFT * WIDEST + place] = 0;
            }
        }

        void addToDraft(int place, int more) {
            if (place >= 0 && place < WIDEST) {
                coefficients[DRAFT * WIDEST + place] += more;
            }
        }

        /** False if the COEFFICIENT is out of range: then the DRAFT is not to be kept. */
        boolean setInDraft(int place, long coefficient) {
            boolean fits = coefficient >= -GREATEST_COEFFICIENT && coefficient <= GREATEST_COEFFICIENT;
            if (fits && place >= 0 && place < WIDEST) {
                coefficients[DRAFT * WIDEST + place] = (int) coefficient;
            }
            return fits;
        }

        /** The DRAFT becomes a SUM, and what the SUM was can be UNDONE. */
        void keepDraft(int sum) {
            if (has(sum) && nextUndo >= 0 && nextUndo < MOST_UNDOS) {
                copy(sum, UNDOS + nextUndo);
                undoneSums[nextUndo] = sum;
                nextUndo = (nextUndo + 1) % MOST_UNDOS;
                undos = Math.min(undos + 1, MOST_UNDOS);
                copy(DRAFT, sum);
            }
        }

        int howManyUndos() {
            return undos;
        }

        boolean undoLatest() {
            int latest = (nextUndo + MOST_UNDOS - 1) % MOST_UNDOS;
            if (undos < 1 || latest < 0) {
                return false;
            }
            copy(UNDOS + latest, undoneSums[latest]);
            nextUndo = latest;
            undos--;
            return true;
        }

        void takeImage() {
            for (int sum = 0; sum < SUMS; sum++) {
                copy(sum, IMAGE + sum);
            }
            imageTaken = true;
        }

        boolean goOnFromImage() {
            if (!imageTaken) {
                return false;
            }
            for (int sum = 0; sum < SUMS; sum++) {
                copy(IMAGE + sum, sum);
            }
            undos = 0;
            return true;
        }

        private void copy(int from, int to) {
            if (from >= 0 && from < SLOTS && to >= 0 && to < SLOTS) {
                sizes[to] = sizes[from];
                System.arraycopy(coefficients, from * WIDEST, coefficients, to * WIDEST, WIDEST);
            }
        }
    }

    /** What SUMS become: each makes the DRAFT, and is false if a COEFFICIENT is out of range. */
    private static final class Arithmetic {

        private final Shapes shapes;
        private final Rims rims;
        private final Characters characters;
        private final Numbers numbers;
        private final Sums sums;
        /** The new COEFFICIENTS, by places, before it is known whether they are in range. */
        private final long[] totals = new long[WIDEST];

        Arithmetic(Shapes ofShapes, Rims ofRims, Characters ofCharacters, Numbers ofNumbers, Sums ofSums) {
            shapes = ofShapes;
            rims = ofRims;
            characters = ofCharacters;
            numbers = ofNumbers;
            sums = ofSums;
        }

        private void begin() {
            for (int place = 0; place < WIDEST; place++) {
                totals[place] = 0;
            }
        }

        private void add(int place, long more) {
            if (place >= 0 && place < WIDEST) {
                totals[place] += more;
            }
        }

        private boolean draftsTotals(int size) {
            sums.beginDraft(size);
            for (int place = 0; place < WIDEST; place++) {
                if (!sums.setInDraft(place, totals[place])) {
                    return false;
                }
            }
            return true;
        }

        /** PLUS with the sign 1, LESS with the sign -1. */
        boolean draftsPlus(int one, int other, int sign) {
            begin();
            for (int place = 0; place < WIDEST; place++) {
                add(place, sums.at(one, place) + sign * sums.at(other, place));
            }
            return draftsTotals(sums.sizeOf(one));
        }

        boolean draftsTimes(int one, int other) {
            int size = sums.sizeOf(one);
            begin();
            for (int i = 0; i < shapes.countOf(size); i++) {
                addProduct(size, i, i, (long) sums.at(one, i) * sums.at(other, i));
                // The NUMBER does not tell the two SHAPES apart, so both orders go together.
                for (int j = 0; j < i; j++) {
                    long both = (long) sums.at(one, i) * sums.at(other, j);
                    both += (long) sums.at(one, j) * sums.at(other, i);
                    addProduct(size, i, j, both);
                }
            }
            return draftsTotals(size);
        }

        private void addProduct(int size, int i, int j, long often) {
            // Most COEFFICIENTS of most SUMS are 0: their NUMBERS need not be known.
            if (often != 0) {
                for (int place = 0; place < shapes.countOf(size); place++) {
                    add(place, often * numbers.atPlaces(size, i, j, place));
                }
            }
        }

        boolean draftsAbout(int sum) {
            int size = sums.sizeOf(sum);
            begin();
            for (int place = 0; place < shapes.countOf(size); place++) {
                int turned = shapes.turnedOf(shapes.firstOf(size) + place);
                add(shapes.placeOf(turned), sums.at(sum, place));
            }
            return draftsTotals(size);
        }

        /** A CELL at the end of a row that may go is just one whose HOOK is 1. */
        boolean draftsRestricted(int sum) {
            int size = sums.sizeOf(sum);
            begin();
            for (int place = 0; place < shapes.countOf(size); place++) {
                int shape = shapes.firstOf(size) + place;
                for (int cell = 0; cell < size; cell++) {
                    if (rims.hookBy(shape, cell) == 1) {
                        add(shapes.placeOf(rims.leftBy(shape, cell)), sums.at(sum, place));
                    }
                }
            }
            return draftsTotals(size - 1);
        }

        boolean draftsInduced(int sum) {
            int size = sums.sizeOf(sum) + 1;
            begin();
            for (int place = 0; place < shapes.countOf(size); place++) {
                int shape = shapes.firstOf(size) + place;
                for (int cell = 0; cell < size; cell++) {
                    if (rims.hookBy(shape, cell) == 1) {
                        add(place, sums.at(sum, shapes.placeOf(rims.leftBy(shape, cell))));
                    }
                }
            }
            return draftsTotals(size);
        }

        long valueAt(int sum, int atClass) {
            int size = sums.sizeOf(sum);
            int first = shapes.firstOf(size);
            long together = 0;
            for (int place = 0; place < shapes.countOf(size); place++) {
                together += (long) sums.at(sum, place) * characters.at(first + place, atClass);
            }
            return together;
        }

        long innerOf(int one, int other) {
            long together = 0;
            for (int place = 0; place < WIDEST; place++) {
                together += (long) sums.at(one, place) * sums.at(other, place);
            }
            return together;
        }
    }

    /** The letters that came, and how a SUM is read from them, from the left, not ahead. */
    private static final class Letters {

        static final int NO_FAULT = -1;

        private static final int MOST = 72;
        private static final int MOST_DIGITS = 3;
        private static final int NO_LETTER = -1;
        private static final int NO_SIZE = -1;

        private final Shapes shapes;
        private final Sums sums;
        private final int[] letters = new int[MOST];
        private int count;
        /** The place of the letter that is read next. */
        private int next;
        /** The SIZE of the first TERM, once that has been read. */
        private int size;

        Letters(Shapes ofShapes, Sums ofSums) {
            shapes = ofShapes;
            sums = ofSums;
        }

        boolean areFull() {
            return count >= MOST;
        }

        int howMany() {
            return count;
        }

        void add(int letter) {
            if (count >= 0 && count < MOST) {
                letters[count] = letter;
                count++;
            }
        }

        void forget() {
            count = 0;
        }

        /** The place of the FAULT. */
        int readToDraft() {
            next = 0;
            size = NO_SIZE;
            boolean minus = passes('-');
            for (int term = 0; term < MOST; term++) {
                if (!passesTerm(minus)) {
                    return next;
                }
                if (next == count) {
                    return NO_FAULT;
                }
                minus = passes('-');
                if (!minus && !passes('+')) {
                    return next;
                }
            }
            return next;
        }

        private int nextLetter() {
            return next >= 0 && next < count && next < MOST ? letters[next] : NO_LETTER;
        }

        private boolean passes(int wanted) {
            boolean stands = nextLetter() == wanted;
            if (stands) {
                next++;
            }
            return stands;
        }

        private boolean passesTerm(boolean minus) {
            int number = passNumber();
            if (!passes('[')) {
                return false;
            }
            int shape = passRows();
            if (nextLetter() == ']' && size == NO_SIZE) {
                size = shapes.sizeOf(shape);
                sums.beginDraft(size);
            }
            if (shapes.sizeOf(shape) != size || !passes(']')) {
                return false;
            }
            sums.addToDraft(shapes.placeOf(shape), minus ? -number : number);
            return true;
        }

        /** The number ahead of a TERM; without one it stands once. */
        private int passNumber() {
            int number = 0;
            int digits = 0;
            while (digits < MOST_DIGITS && nextLetter() >= '0' && nextLetter() <= '9') {
                number = number * 10 + nextLetter() - '0';
                digits++;
                next++;
            }
            return digits == 0 ? 1 : number;
        }

        /** The SHAPE of the rows that stand there, up to the first letter that can't be one. */
        private int passRows() {
            int most = size == NO_SIZE ? GREATEST_SIZE : size;
            int last = most;
            int used = 0;
            int key = 0;
            for (int r = 0; r < GREATEST_SIZE; r++) {
                int row = nextLetter() - '0';
                if (row < 1 || row > last || used + row > most) {
                    break;
                }
                key = Shapes.keyWith(key, row);
                used += row;
                last = row;
                next++;
            }
            return shapes.find(used, key);
        }
    }

    /** The LISTS, each with all its places from the first on, used or not. */
    private static final class Lists {

        static final int LONGEST = 40;

        private static final int LISTS = 3;
        private static final int NO_LIST = -1;

        private final int[] values = new int[LISTS * LONGEST];
        private final int[] lengths = new int[LISTS];

        Lists() {
            for (int list = 0; list < LISTS; list++) {
                lengths[list] = NO_LIST;
            }
        }

        boolean has(int list) {
            return list >= 0 && list < LISTS;
        }

        int lengthOf(int list) {
            return has(list) ? lengths[list] : NO_LIST;
        }

        boolean isMissing(int list) {
            return lengthOf(list) == NO_LIST;
        }

        boolean hasPlace(int list, int i) {
            return i >= 0 && i < lengthOf(list) && i < LONGEST;
        }

        void begin(int list, int length) {
            if (has(list)) {
                lengths[list] = length;
                for (int i = 0; i < LONGEST; i++) {
                    values[list * LONGEST + i] = 0;
                }
            }
        }

        void store(int list, int i, int value) {
            if (hasPlace(list, i)) {
                values[list * LONGEST + i] = value;
            }
        }

        int at(int list, int i) {
            return hasPlace(list, i) ? values[list * LONGEST + i] : 0;
        }
    }
}
