/** "An object is used for at most 512 calls after it has been made": each answer is right up to the 512th. */
final class CallsTest {
    private static final int MOST = 512;

    public static void main(String[] args) {
        Expect.sentence("An object is used for at most 512 calls after it has been made", () -> {
            runs();
            throwing();
            preparing();
            nodes();
            asking();
            refused();
        });
        Expect.end();
    }

    /** Fourteen nodes worked out as often as it can be. */
    private static void runs() {
        GraphRunner x = new GraphRunner();
        x.table(0, 0, 4, 4, false);
        for (int n = 0; n < 14; n++) {
            x.node(6, n, -1, -1, n + 1, 0, 0);
        }
        x.prepare();
        int calls = 16;
        int runs = 0;
        while (calls + 3 < MOST) {
            double v = ++runs;
            x.set(0, 1, 2, v);
            Expect.answers("run " + runs, 14, () -> x.run(14));
            Expect.answers("get " + runs, v, () -> x.get(14, 1, 2));
            calls += 3;
        }
        int worked = 14 * runs;
        for (; calls < MOST; calls++) {
            Expect.answers("worked out in all", worked, () -> x.count(4));
        }
    }

    private static void throwing() {
        GraphRunner x = new GraphRunner();
        x.table(0, 1, 1, 1, false);
        x.node(3, 0, 0, -1, 1, 0, 0);
        x.prepare();
        for (int calls = 3; calls < MOST - 1; calls++) {
            Expect.fails("run " + calls, Expect.ARITHMETIC, () -> x.run(1));
        }
        Expect.answers("thrown in all", MOST - 4, () -> x.count(5));
    }

    private static void preparing() {
        GraphRunner x = new GraphRunner();
        x.table(0, 0, 1, 1, true);
        for (int n = 0; n < 14; n++) {
            x.node(0, n, n, -1, n + 1, 0, 0);
        }
        int calls = 15;
        for (int v = 1; calls + 3 <= MOST; v++) {
            double held = v;
            x.set(0, 0, 0, held);
            Expect.answers("prepare " + v, 14, x::prepare);
            Expect.answers("get " + v, held * 16384, () -> x.get(14, 0, 0));
            calls += 3;
        }
    }

    /** More than fourteen nodes in all, and never more than fourteen at once. */
    private static void nodes() {
        GraphRunner x = new GraphRunner();
        x.table(19, 0, 1, 1, false);
        int calls = 1;
        while (calls + 29 <= MOST) {
            for (int n = 0; n < 14; n++) {
                int number = n;
                Expect.answers("node " + n, n, () -> x.node(5, 19, -1, -1, number, 0, 0));
            }
            Expect.fails("no room", Expect.STATE, () -> x.node(5, 19, -1, -1, 14, 0, 0));
            for (int n = 0; n < 14; n++) {
                Expect.works("undo", x::undo);
            }
            calls += 29;
        }
        Expect.fails("none is left", Expect.MISSING, x::undo);
    }

    private static void asking() {
        GraphRunner x = new GraphRunner();
        x.table(0, 1, 4, 4, true);
        x.set(0, 3, 3, 5);
        for (int calls = 2; calls + 3 <= MOST; calls += 3) {
            Expect.answers("get", 5, () -> x.get(0, 3, 3));
            Expect.answers("slot", 4, () -> x.slot(0, 2));
            Expect.answers("count", 0, () -> x.count(1));
        }
    }

    private static void refused() {
        GraphRunner x = new GraphRunner();
        for (int calls = 0; calls + 3 < MOST; calls += 3) {
            Expect.fails("undo", Expect.MISSING, x::undo);
            Expect.fails("table", Expect.BAD, () -> x.table(0, 2, 1, 1, false));
            Expect.fails("run", Expect.BAD, () -> x.run(0));
        }
        Expect.works("a table in the end", () -> x.table(0, 1, 1, 1, false));
        Expect.answers("there", 1, () -> x.slot(0, 0));
    }
}
