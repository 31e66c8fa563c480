/** Promise 2. */
final class TableTest {
    public static void main(String[] args) {
        ordinary();
        wrong();
        unprepares();
        usesSlotsAgain();
        Expect.end();
    }

    private static void ordinary() {
        GraphRunner x = new GraphRunner();
        x.table(0, 0, 1, 4, false);
        x.table(19, 1, 4, 1, true);
        Expect.answers("input", 1, () -> x.slot(0, 0));
        Expect.answers("constant", 2, () -> x.slot(19, 0));
        Expect.holds("input", x, 0, 0, Expect.row(0, 0, 0, 0));
        Expect.holds("constant", x, 19, 1, Expect.rows(Expect.of(0), Expect.of(0), Expect.of(0), Expect.of(0)));
    }

    private static void wrong() {
        GraphRunner x = new GraphRunner();
        int[][] bad = {
            {-1, 0, 1, 1}, {20, 0, 1, 1}, {Integer.MIN_VALUE, 0, 1, 1}, {Integer.MAX_VALUE, 0, 1, 1},
            {0, -1, 1, 1}, {0, 2, 1, 1}, {0, 0, 0, 1}, {0, 0, 5, 1}, {0, 0, -1, 1},
            {0, 0, 1, 0}, {0, 0, 1, 5}, {0, 0, 1, -1}, {0, 0, Integer.MAX_VALUE, Integer.MIN_VALUE},
        };
        for (int[] b : bad) {
            String what = "table(" + b[0] + ", " + b[1] + ", " + b[2] + ", " + b[3] + ")";
            Expect.fails(what, Expect.BAD, () -> x.table(b[0], b[1], b[2], b[3], false));
        }
        Expect.answers("slot 0 is free still", 0, () -> x.slot(0, 0));
        Expect.answers("prepared still", 1, () -> x.count(1));

        Expect.floats(x, 0, false, Expect.row(7));
        x.table(1, 0, 1, 1, true);
        x.node(5, 0, -1, -1, 2, 0, 0);
        for (int s = 0; s <= 2; s++) {
            int taken = s;
            Expect.fails("slot " + s + " is taken", Expect.BAD, () -> x.table(taken, 1, 2, 2, false));
        }
        Expect.holds("slot 0 as it was", x, 0, 0, Expect.row(7));
    }

    private static void unprepares() {
        for (int constant = 0; constant <= 1; constant++) {
            boolean isConstant = constant == 1;
            GraphRunner x = new GraphRunner();
            Expect.floats(x, 0, false, Expect.row(1));
            x.node(5, 0, -1, -1, 1, 0, 0);
            x.prepare();
            x.run(1);
            Expect.answers("known", 1, () -> x.count(3));
            Expect.fails("taken", Expect.BAD, () -> x.table(0, 0, 1, 1, isConstant));
            Expect.answers("known after a refused table", 1, () -> x.count(3));
            x.table(2, 0, 1, 1, isConstant);
            Expect.answers("not prepared", 0, () -> x.count(1));
            Expect.answers("nothing known", 0, () -> x.count(3));
            Expect.fails("run", Expect.STATE, () -> x.run(1));
            x.prepare();
            Expect.answers("nothing known when prepared anew", 0, () -> x.count(3));
        }
    }

    private static void usesSlotsAgain() {
        GraphRunner x = new GraphRunner();
        Expect.floats(x, 0, true, Expect.rows(Expect.of(1, 2), Expect.of(3, 4)));
        x.node(6, 0, -1, -1, 1, 0, 0);
        x.prepare();
        x.undo();
        x.table(1, 1, 2, 2, false);
        Expect.holds("a slot that had an outcome", x, 1, 1, Expect.rows(Expect.of(0, 0), Expect.of(0, 0)));
    }
}
