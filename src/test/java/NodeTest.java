/** Promise 4. */
final class NodeTest {
    private static final int[] ARGUMENTS = {2, 2, 2, 2, 2, 1, 1, 1, 2, 3, 1, 1, 1, 2, 1, 2, 2, 3, 1};

    public static void main(String[] args) {
        numbers();
        arguments();
        wrong();
        room();
        unprepares();
        Expect.end();
    }

    private static void numbers() {
        GraphRunner x = new GraphRunner();
        Expect.answers("first", 0, () -> x.node(0, 0, 19, -1, 5, -8, 8));
        Expect.answers("second", 1, () -> x.node(5, 5, -1, -1, 0, 8, -8));
        Expect.answers("an argument is its own outcome", 2, () -> x.node(5, 7, -1, -1, 7, 0, 0));
        Expect.answers("nodes", 3, () -> x.count(0));
        Expect.answers("outcome", 3, () -> x.slot(5, 0));
        Expect.answers("argument stays free", 0, () -> x.slot(19, 0));
    }

    private static void arguments() {
        for (int op = 0; op < ARGUMENTS.length; op++) {
            for (int given = 0; given <= 3; given++) {
                GraphRunner x = new GraphRunner();
                int o = op;
                int a = given >= 1 ? 0 : -1;
                int b = given >= 2 ? 0 : -1;
                int c = given >= 3 ? 0 : -1;
                String what = "op " + op + " with " + given + " arguments";
                if (given == ARGUMENTS[op]) {
                    Expect.answers(what, 0, () -> x.node(o, a, b, c, 5, 0, 0));
                } else {
                    Expect.fails(what, Expect.BAD, () -> x.node(o, a, b, c, 5, 0, 0));
                }
            }
        }
    }

    private static void wrong() {
        GraphRunner x = new GraphRunner();
        x.table(0, 0, 1, 1, false);
        x.table(1, 1, 1, 1, true);
        x.node(5, 0, -1, -1, 2, 0, 0);
        x.prepare();
        x.run(2);
        int[][] bad = {
            {-1, 0, 0, -1, 5, 0, 0}, {19, 0, -1, -1, 5, 0, 0}, {Integer.MIN_VALUE, 0, 0, 0, 5, 0, 0},
            {Integer.MAX_VALUE, 0, 0, 0, 5, 0, 0},
            {0, 20, 0, -1, 5, 0, 0}, {0, -1, 0, -1, 5, 0, 0}, {0, -2, 0, -1, 5, 0, 0},
            {0, 0, 20, -1, 5, 0, 0}, {0, 0, -2, -1, 5, 0, 0}, {0, 0, 0, 0, 5, 0, 0}, {0, 0, 0, -2, 5, 0, 0},
            {5, 0, -2, -1, 5, 0, 0}, {5, 0, 20, -1, 5, 0, 0}, {5, 0, -1, 3, 5, 0, 0},
            {9, 0, 0, 20, 5, 0, 0}, {9, 0, -1, 0, 5, 0, 0}, {17, -1, 0, 0, 5, 0, 0},
            {0, 0, 0, -1, -1, 0, 0}, {0, 0, 0, -1, 20, 0, 0}, {0, 0, 0, -1, 0, 0, 0}, {0, 0, 0, -1, 1, 0, 0},
            {0, 0, 0, -1, 2, 0, 0},
            {0, 0, 0, -1, 5, 9, 0}, {0, 0, 0, -1, 5, -9, 0}, {0, 0, 0, -1, 5, 0, 9}, {0, 0, 0, -1, 5, 0, -9},
        };
        for (int[] b : bad) {
            String what = "node " + java.util.Arrays.toString(b);
            Expect.fails(what, Expect.BAD, () -> x.node(b[0], b[1], b[2], b[3], b[4], b[5], b[6]));
        }
        Expect.answers("nodes as they were", 1, () -> x.count(0));
        Expect.answers("prepared still", 1, () -> x.count(1));
        Expect.answers("known still", 1, () -> x.count(3));
        Expect.answers("free still", 0, () -> x.slot(5, 0));
    }

    private static void room() {
        GraphRunner x = new GraphRunner();
        x.table(0, 0, 1, 1, false);
        for (int n = 0; n < 14; n++) {
            int number = n;
            Expect.answers("node " + n, n, () -> x.node(5, 0, -1, -1, number + 1, 0, 0));
        }
        x.prepare();
        Expect.fails("no room", Expect.STATE, () -> x.node(5, 0, -1, -1, 15, 0, 0));
        Expect.fails("bad comes before no room", Expect.BAD, () -> x.node(5, 0, -1, -1, 1, 0, 0));
        Expect.fails("bad comes before no room", Expect.BAD, () -> x.node(5, 0, -1, -1, 15, 9, 0));
        Expect.answers("prepared still", 1, () -> x.count(1));
        Expect.answers("free still", 0, () -> x.slot(15, 0));
        x.undo();
        Expect.answers("room again", 13, () -> x.node(5, 0, -1, -1, 15, 0, 0));
    }

    private static void unprepares() {
        GraphRunner x = new GraphRunner();
        Expect.floats(x, 0, true, Expect.row(2));
        Expect.floats(x, 1, false, Expect.row(3));
        x.node(5, 0, -1, -1, 2, 0, 0);
        x.node(5, 1, -1, -1, 3, 0, 0);
        x.prepare();
        x.run(3);
        x.node(5, 0, -1, -1, 4, 0, 0);
        Expect.answers("not prepared", 0, () -> x.count(1));
        Expect.answers("nothing folded", 0, () -> x.count(2));
        Expect.answers("nothing known", 0, () -> x.count(3));
        Expect.fails("folded one gone", Expect.MISSING, () -> x.get(2, 0, 0));
        Expect.fails("known one gone", Expect.MISSING, () -> x.get(3, 0, 0));
    }
}
