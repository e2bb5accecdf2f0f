import java.util.Random;

/** Long runs of calls on the program and on the model, answer against answer. */
public final class ModelTest {
    private static final int RUNS = 400;
    private static final int CALLS = 512;
    private static final int[] EDGES = {
        Integer.MIN_VALUE, Integer.MIN_VALUE + 1, -1000, -2, -1, 9, 39, 40, 41, 66, 67, 68, 72, 255, 256,
        Integer.MAX_VALUE - 1, Integer.MAX_VALUE
    };

    private final Random random;
    private final CharactersMultiplied program = new CharactersMultiplied();
    private final Model model = new Model();
    private int calls;
    private final int run;
    /** The size that most arguments of this run are of, so that calls meet. */
    private int size;

    private ModelTest(int run) {
        this.run = run;
        random = new Random(run);
        size = random.nextInt(9);
    }

    public static void main(String[] args) {
        Check all = new Check("ModelTest");
        for (int run = 0; run < RUNS; run++) {
            ModelTest test = new ModelTest(run);
            test.runs(all);
        }
        all.end();
    }

    private void runs(Check all) {
        while (calls < CALLS) {
            if (random.nextInt(60) == 0) {
                size = random.nextInt(9);
            }
            if (random.nextInt(6) == 0) {
                writes(all);
            } else {
                calls(all, random.nextInt(33), wild(), wild());
            }
        }
    }

    private boolean wild() {
        return random.nextInt(12) == 0;
    }

    private int edge() {
        return EDGES[random.nextInt(EDGES.length)];
    }

    private int below(int bound) {
        return wild() ? edge() : random.nextInt(bound);
    }

    private int shape() {
        if (wild()) {
            return random.nextBoolean() ? edge() : random.nextInt(67);
        }
        return Oracle.first(size) + random.nextInt(Oracle.many(size));
    }

    private int small() {
        return wild() ? edge() : random.nextInt(12);
    }

    private int place() {
        return wild() ? edge() : random.nextInt(42) - 1;
    }

    private void due(Check all, String call, long got, long want) {
        calls++;
        all.due("run " + run + " call " + calls + " " + call, got, want);
    }

    /** Letters of a sum, sometimes with one of them changed, and mostly read at once. */
    private void writes(Check all) {
        StringBuilder text = new StringBuilder(random.nextInt(3) == 0 ? "-" : "");
        for (int terms = 1 + random.nextInt(6); terms > 0; terms--) {
            for (int digits = random.nextInt(4); digits > 0; digits--) {
                text.append(random.nextInt(10));
            }
            text.append('[');
            for (int row : Oracle.SHAPES.get(Oracle.first(size) + random.nextInt(Oracle.many(size)))) {
                text.append(row);
            }
            text.append(']');
            if (terms > 1) {
                text.append(random.nextBoolean() ? '+' : '-');
            }
        }
        if (random.nextInt(4) == 0) {
            spoils(text);
        }
        for (int i = 0; i < text.length() && calls < CALLS; i++) {
            int c = text.charAt(i);
            due(all, "letter(" + c + ")", program.letter(c), model.letter(c));
        }
        if (random.nextInt(8) != 0 && calls < CALLS) {
            int sum = below(4);
            due(all, "reads(" + sum + ") of " + text, program.reads(sum), model.reads(sum));
        }
    }

    private void spoils(StringBuilder text) {
        String signs = "+-[]0123456789 a";
        int at = random.nextInt(text.length());
        char sign = signs.charAt(random.nextInt(signs.length()));
        switch (random.nextInt(4)) {
            case 0: text.setCharAt(at, sign); break;
            case 1: text.insert(at, sign); break;
            case 2: text.deleteCharAt(at); break;
            default: text.setLength(at); break;
        }
    }

    private void calls(Check all, int which, boolean odd, boolean odder) {
        int a;
        int b;
        int c;
        int d;
        switch (which) {
            case 0: a = shape(); b = odd ? edge() : random.nextInt(20) - 1;
                due(all, "of(" + a + ", " + b + ")", program.of(a, b), model.of(a, b)); break;
            case 1: a = below(3);
                due(all, "shape(" + a + ")", program.shape(a), model.shape(a)); break;
            case 2: a = below(9); b = below(3);
                due(all, "shapes(" + a + ", " + b + ")", program.shapes(a, b), model.shapes(a, b)); break;
            case 3: a = shape(); b = below(3); c = below(3);
                due(all, "hook(" + a + ", " + b + ", " + c + ")", program.hook(a, b, c), model.hook(a, b, c)); break;
            case 4: a = shape(); b = odd ? small() : 1 + random.nextInt(4); c = odder ? small() : random.nextInt(5) - 2;
                due(all, "rims(" + a + ", " + b + ", " + c + ")", program.rims(a, b, c), model.rims(a, b, c)); break;
            case 5: a = shape(); b = odd ? small() : 1 + random.nextInt(4); c = odder ? small() : random.nextInt(4) - 1;
                due(all, "height(" + a + ", " + b + ", " + c + ")", program.height(a, b, c), model.height(a, b, c)); break;
            case 6: a = shape(); b = shape();
                due(all, "character(" + a + ", " + b + ")", program.character(a, b), model.character(a, b)); break;
            case 7: a = below(9); b = below(8); c = below(3);
                due(all, "odds(" + a + ", " + b + ", " + c + ")", program.odds(a, b, c), model.odds(a, b, c)); break;
            case 8: a = shape(); b = shape(); c = shape();
                due(all, "number(" + a + ", " + b + ", " + c + ")", program.number(a, b, c), model.number(a, b, c)); break;
            case 9: a = shape(); b = shape(); c = random.nextInt(25) - 2;
                due(all, "product(" + a + ", " + b + ", " + c + ")", program.product(a, b, c), model.product(a, b, c)); break;
            case 10: a = shape(); b = shape();
                due(all, "greatest(" + a + ", " + b + ")", program.greatest(a, b), model.greatest(a, b)); break;
            case 11: a = odd ? edge() : random.nextInt(14); b = small();
                due(all, "grown(" + a + ", " + b + ")", program.grown(a, b), model.grown(a, b)); break;
            case 12: a = odd ? edge() : random.nextInt(13); b = random.nextInt(12); c = random.nextInt(12); d = below(2);
                due(all, "settled(" + a + ", " + b + ", " + c + ", " + d + ")",
                    program.settled(a, b, c, d), model.settled(a, b, c, d)); break;
            case 13: a = below(9); b = odd ? edge() : random.nextInt(52); c = random.nextInt(); d = below(3);
                due(all, "lots(" + a + ", " + b + ", " + c + ", " + d + ")",
                    program.lots(a, b, c, d), model.lots(a, b, c, d)); break;
            case 14: a = odd ? edge() : random.nextInt(256);
                if (odd) {
                    due(all, "letter(" + a + ")", program.letter(a), model.letter(a));
                }
                break;
            case 15: a = below(4);
                if (odd) {
                    due(all, "reads(" + a + ")", program.reads(a), model.reads(a));
                }
                break;
            case 16: a = below(4);
                if (odd) {
                    due(all, "clear(" + a + ")", program.clear(a), model.clear(a));
                }
                break;
            case 17: a = below(4); b = below(4);
                due(all, "sum(" + a + ", " + b + ")", program.sum(a, b), model.sum(a, b)); break;
            case 18: a = below(4); b = shape();
                due(all, "coefficient(" + a + ", " + b + ")", program.coefficient(a, b), model.coefficient(a, b)); break;
            case 19: case 20: case 21: a = below(4); b = below(4); c = below(4); d = below(3);
                due(all, "makes(" + a + ", " + b + ", " + c + ", " + d + ")",
                    program.makes(a, b, c, d), model.makes(a, b, c, d)); break;
            case 22: case 23: a = below(4); b = below(3);
                due(all, "changed(" + a + ", " + b + ")", program.changed(a, b), model.changed(a, b)); break;
            case 24: a = below(4); b = shape();
                due(all, "value(" + a + ", " + b + ")", program.value(a, b), model.value(a, b)); break;
            case 25: a = below(4); b = below(4);
                due(all, "inner(" + a + ", " + b + ")", program.inner(a, b), model.inner(a, b)); break;
            case 26: callsList(all, odd); break;
            case 27: a = below(3); b = odd ? edge() : random.nextInt(6); c = odder ? edge() : random.nextInt(5);
                due(all, "put(" + a + ", " + b + ", " + c + ")", program.put(a, b, c), model.put(a, b, c)); break;
            case 28: a = below(3); b = place();
                due(all, "look(" + a + ", " + b + ")", program.look(a, b), model.look(a, b)); break;
            case 29: a = below(3); b = odd ? place() : 0; c = shape();
                due(all, "lays(" + a + ", " + b + ", " + c + ")", program.lays(a, b, c), model.lays(a, b, c)); break;
            case 30: a = below(3); b = shape();
                due(all, "judge(" + a + ", " + b + ")", program.judge(a, b), model.judge(a, b)); break;
            case 31: a = below(3); b = odd ? below(9) : size; c = below(3);
                due(all, "which(" + a + ", " + b + ", " + c + ")", program.which(a, b, c), model.which(a, b, c)); break;
            default: callsImage(all, odd); break;
        }
    }

    private void callsList(Check all, boolean odd) {
        int list = below(3);
        int length = odd ? edge() : random.nextInt(3) == 0 ? random.nextInt(42) : random.nextInt(9);
        due(all, "list(" + list + ", " + length + ")", program.list(list, length), model.list(list, length));
    }

    private void callsImage(Check all, boolean odd) {
        if (odd && random.nextBoolean()) {
            due(all, "on()", program.on(), model.on());
        } else if (odd) {
            due(all, "image()", program.image(), model.image());
        } else if (random.nextBoolean()) {
            due(all, "undo()", program.undo(), model.undo());
        } else {
            int what = random.nextInt(20) - 1;
            due(all, "count(" + what + ")", program.count(what), model.count(what));
        }
    }
}
