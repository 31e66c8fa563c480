import java.util.Random;

/** Many runs of calls, each call asked of a GraphRunner and of the model; the seed is the run's number. */
final class ModelTest {
    private static final int RUNS = 6000;
    // A step makes up to 29 calls, and an object is promised nothing after its 512th.
    private static final int ENOUGH_CALLS = 480;
    private static final int OFTEN = 400;
    private static final int[] ARGUMENTS = {2, 2, 2, 2, 2, 1, 1, 1, 2, 3, 1, 1, 1, 2, 1, 2, 2, 3, 1};

    private final Random random;
    private final GraphRunner x = new GraphRunner();
    private final Model model = new Model();
    private final StringBuilder told = new StringBuilder();
    private final int longestSide;
    private int calls = 0;
    private static final int[] REACHED = new int[19];

    private ModelTest(int seed) {
        random = new Random(seed);
        longestSide = 1 + seed % 4;
    }

    public static void main(String[] args) {
        for (int seed = 0; seed < RUNS; seed++) {
            ModelTest test = new ModelTest(seed);
            boolean same = true;
            for (int k = 0; k < 6 && same; k++) {
                same = test.stepTable();
            }
            while (same && test.calls < ENOUGH_CALLS) {
                same = test.step();
            }
            Expect.look("run " + seed, same, "\n" + test.told, "the model's answers");
            if (!same) {
                break;
            }
        }
        for (int op = 0; op < REACHED.length; op++) {
            Expect.look("op " + op + " was run often", REACHED[op] > OFTEN, "" + REACHED[op], "more often");
        }
        Expect.end();
    }

    private int number(int from, int to) {
        return from + random.nextInt(to - from + 1);
    }

    private boolean rarely() {
        return random.nextInt(40) == 0;
    }

    private int slot() {
        return rarely() ? number(-2, 21) : number(0, 19);
    }

    private int argument(boolean isThere) {
        if (!isThere) {
            return rarely() ? number(-2, 2) : -1;
        }
        // Mostly one that holds something, or few graphs would ever be prepared.
        int s = slot();
        for (int k = 0; k < 12 && s >= 0 && s < 20 && model.slot(s, 0) == 0; k++) {
            s = slot();
        }
        return s;
    }

    private int freeSlot() {
        return ofKind(0);
    }

    /** Mostly a slot of this kind. */
    private int ofKind(int kind) {
        int s = slot();
        for (int k = 0; k < 20 && s >= 0 && s < 20 && model.slot(s, 0) != kind; k++) {
            s = slot();
        }
        return s;
    }

    private int side() {
        return rarely() ? number(-1, 6) : number(1, longestSide);
    }

    private double value() {
        switch (number(0, 9)) {
            case 0: return rarely() ? Double.NaN : -0.0;
            case 1: return number(-1001, 1001);
            case 2: return 1000;
            case 3: return random.nextDouble() * 2002 - 1001;
            case 4: return number(-20, 20) / 4.0;
            default: return number(-3, 3);
        }
    }

    private boolean step() {
        int kind = number(0, 99);
        if (kind < 1) {
            return stepTable();
        }
        if (kind < 20) {
            return stepSet();
        }
        if (kind < 32) {
            return stepNode();
        }
        if (kind < 34) {
            return same("undo()", () -> nothing(x::undo), () -> nothing(model::undo));
        }
        if (kind < 50) {
            return stepPrepare();
        }
        return kind < 85 ? stepRun() : stepAsk(kind);
    }

    private boolean stepTable() {
        int s = freeSlot();
        int type = rarely() ? number(-1, 2) : number(0, 1);
        int rows = side();
        int columns = side();
        boolean constant = number(0, 2) == 0;
        return same("table(" + s + ", " + type + ", " + rows + ", " + columns + ", " + constant + ")",
                () -> nothing(() -> x.table(s, type, rows, columns, constant)),
                () -> nothing(() -> model.table(s, type, rows, columns, constant)));
    }

    private boolean stepSet() {
        int s = ofKind(number(0, 9) == 0 ? 2 : 1);
        int i = rarely() ? number(-1, 4) : number(0, longestSide - 1);
        int j = rarely() ? number(-1, 4) : number(0, longestSide - 1);
        double v = value();
        return same("set(" + s + ", " + i + ", " + j + ", " + v + ")",
                () -> nothing(() -> x.set(s, i, j, v)), () -> nothing(() -> model.set(s, i, j, v)));
    }

    private boolean stepNode() {
        int op = rarely() ? number(-1, 19) : number(0, 18);
        int has = op >= 0 && op <= 18 ? ARGUMENTS[op] : 1;
        int a = argument(true);
        int b = argument(has > 1);
        int c = argument(has > 2);
        int out = freeSlot();
        int p = rarely() ? number(-9, 9) : number(0, 1);
        int q = rarely() ? number(-9, 9) : number(0, 2);
        return same("node(" + op + ", " + a + ", " + b + ", " + c + ", " + out + ", " + p + ", " + q + ")",
                () -> x.node(op, a, b, c, out, p, q), () -> model.node(op, a, b, c, out, p, q));
    }

    private boolean stepPrepare() {
        boolean same = same("prepare()", x::prepare, model::prepare);
        // The latest node is mostly to blame, so that most graphs get prepared in the end.
        while (same && model.count(1) == 0 && model.count(0) > 0 && number(0, 9) > 0) {
            same = same("undo()", () -> nothing(x::undo), () -> nothing(model::undo))
                    && same("prepare()", x::prepare, model::prepare);
        }
        return same;
    }

    private boolean stepRun() {
        int s = ofKind(3);
        int before = model.count(4);
        boolean same = same("run(" + s + ")", () -> x.run(s), () -> model.run(s));
        if (model.count(4) > before) {
            REACHED[model.opOf(s)]++;
        }
        for (int k = 0; k < 3 && same; k++) {
            int i = number(0, longestSide - 1);
            int j = number(0, longestSide - 1);
            same = same("get(" + s + ", " + i + ", " + j + ")", () -> x.get(s, i, j), () -> model.get(s, i, j));
        }
        return same;
    }

    private boolean stepAsk(int kind) {
        if (kind < 90) {
            int s = slot();
            int i = number(-1, 4);
            int j = number(-1, 4);
            return same("get(" + s + ", " + i + ", " + j + ")", () -> x.get(s, i, j), () -> model.get(s, i, j));
        }
        if (kind < 95) {
            int s = slot();
            int what = number(-1, 4);
            return same("slot(" + s + ", " + what + ")", () -> x.slot(s, what), () -> model.slot(s, what));
        }
        int what = number(-1, 24);
        return same("count(" + what + ")", () -> x.count(what), () -> model.count(what));
    }

    private static double nothing(Expect.Act act) {
        act.act();
        return 0.0;
    }

    private boolean same(String call, Expect.Call one, Expect.Call other) {
        calls++;
        String got = told(one);
        String due = told(other);
        told.append(call).append(" answered ").append(got).append(", the model ").append(due).append('\n');
        return got.equals(due);
    }

    private static String told(Expect.Call call) {
        try {
            return "" + call.answer();
        } catch (RuntimeException e) {
            return e.getClass().getName();
        }
    }
}
