/** Promise 3. */
final class SetTest {
    public static void main(String[] args) {
        ordinary();
        wrong();
        inputForgetsWhatIsKnown();
        constantUnprepares();
        Expect.end();
    }

    private static void ordinary() {
        GraphRunner x = new GraphRunner();
        x.table(3, 0, 2, 2, false);
        x.set(3, 0, 0, -1000.0);
        x.set(3, 0, 1, 1000.0);
        x.set(3, 1, 0, -0.0);
        x.set(3, 1, 1, 0.1);
        Expect.holds("floats", x, 3, 0, Expect.rows(Expect.of(-1000, 1000), Expect.of(-0.0, 0.1)));
        x.set(3, 1, 1, 5);
        Expect.answers("set again", 5, () -> x.get(3, 1, 1));
        x.table(4, 1, 1, 3, true);
        x.set(4, 0, 0, -1000.0);
        x.set(4, 0, 1, 1000.0);
        x.set(4, 0, 2, -0.0);
        Expect.holds("ints", x, 4, 1, Expect.row(-1000, 1000, 0));
    }

    private static void wrong() {
        GraphRunner x = new GraphRunner();
        x.table(0, 0, 2, 3, false);
        x.table(1, 1, 1, 1, true);
        x.node(5, 0, -1, -1, 2, 0, 0);
        x.prepare();
        x.run(2);
        int[][] bad = {
            {-1, 0, 0}, {20, 0, 0}, {2, 0, 0}, {5, 0, 0}, {0, -1, 0}, {0, 2, 0}, {0, 0, -1}, {0, 0, 3},
            {1, 0, 1}, {1, 1, 0}, {0, Integer.MAX_VALUE, 0}, {0, 0, Integer.MIN_VALUE},
        };
        for (int[] b : bad) {
            String what = "set(" + b[0] + ", " + b[1] + ", " + b[2] + ")";
            Expect.fails(what, Expect.BAD, () -> x.set(b[0], b[1], b[2], 1.0));
        }
        double[] outside = {
            1000.0000000000001, -1000.0000000000001, 1e300, Double.NaN,
            Double.POSITIVE_INFINITY, Double.NEGATIVE_INFINITY,
        };
        for (double v : outside) {
            Expect.fails("float " + v, Expect.BAD, () -> x.set(0, 0, 0, v));
            Expect.fails("int " + v, Expect.BAD, () -> x.set(1, 0, 0, v));
        }
        for (double v : new double[] {0.5, -0.5, 999.999, 1001.0, -1001.0, Double.MIN_VALUE}) {
            Expect.fails("int " + v, Expect.BAD, () -> x.set(1, 0, 0, v));
        }
        Expect.answers("float as it was", 0, () -> x.get(0, 0, 0));
        Expect.answers("int as it was", 0, () -> x.get(1, 0, 0));
        Expect.answers("prepared still", 1, () -> x.count(1));
        Expect.answers("known still", 1, () -> x.count(3));
    }

    private static void inputForgetsWhatIsKnown() {
        GraphRunner x = new GraphRunner();
        x.table(0, 0, 1, 1, false);
        x.table(1, 0, 1, 1, false);
        Expect.floats(x, 2, true, Expect.row(3));
        x.node(5, 0, -1, -1, 3, 0, 0);
        x.node(5, 2, -1, -1, 4, 0, 0);
        x.prepare();
        x.run(3);
        x.set(1, 0, 0, 0.0);
        Expect.answers("an input of no account set to what it was", 0, () -> x.count(3));
        Expect.fails("not known", Expect.MISSING, () -> x.get(3, 0, 0));
        Expect.answers("prepared still", 1, () -> x.count(1));
        Expect.answers("folded still", 3, () -> x.get(4, 0, 0));
        x.set(0, 0, 0, 8.0);
        Expect.answers("worked out anew", 1, () -> x.run(3));
        Expect.answers("from the new number", 8, () -> x.get(3, 0, 0));
    }

    private static void constantUnprepares() {
        GraphRunner x = new GraphRunner();
        x.table(0, 0, 1, 1, false);
        Expect.floats(x, 1, true, Expect.row(3));
        x.node(5, 0, -1, -1, 2, 0, 0);
        x.node(5, 1, -1, -1, 3, 0, 0);
        x.prepare();
        x.run(2);
        x.set(1, 0, 0, 4.0);
        Expect.answers("not prepared", 0, () -> x.count(1));
        Expect.answers("nothing folded", 0, () -> x.count(2));
        Expect.answers("nothing known", 0, () -> x.count(3));
        Expect.fails("no outcome", Expect.MISSING, () -> x.get(3, 0, 0));
        Expect.answers("folded anew", 1, x::prepare);
        Expect.answers("from the new number", 4, () -> x.get(3, 0, 0));
    }
}
