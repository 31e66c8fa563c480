/** Promise 7: what each op works out, and what it throws. */
final class OpsTest {
    public static void main(String[] args) {
        pairsOfFloats();
        pairsOfInts();
        division();
        products();
        ofOne();
        choices();
        gathered();
        rows();
        slides();
        tooLarge();
        largestTables();
        longAndNarrow();
        workedOutAgain();
        Expect.end();
    }

    private static double[][] table(double[]... rows) {
        return rows;
    }

    private static double[] r(double... cells) {
        return cells;
    }

    /** Slots 0 and 1 hold inputs, slot 9 is the outcome. */
    private static GraphRunner worked(int op, int p, int q, int type, double[][] a, double[][] b) {
        GraphRunner x = new GraphRunner();
        Expect.fillType(x, 0, type, a);
        if (b != null) {
            Expect.fillType(x, 1, op == 15 ? 1 : type, b);
        }
        x.node(op, 0, b != null ? 1 : -1, -1, 9, p, q);
        x.prepare();
        return x;
    }

    private static void gives(int op, int p, int q, int type, double[][] a, double[][] b, int dueType, double[][] due) {
        GraphRunner x = worked(op, p, q, type, a, b);
        String what = "op " + op + " p " + p + " q " + q + " type " + type;
        Expect.answers(what, 1, () -> x.run(9));
        Expect.holds(what, x, 9, dueType, due);
    }

    private static void pairsOfFloats() {
        double[][] a = table(r(1.5, -2, 0.1), r(4, 5, -0.0));
        double[][] b = table(r(0.5, 3, 0.2));
        gives(0, 0, 0, 0, a, b, 0, table(r(2, 1, 0.1 + 0.2), r(4.5, 8, 0.2)));
        gives(1, 0, 0, 0, a, b, 0, table(r(1, -5, 0.1 - 0.2), r(3.5, 2, -0.2)));
        gives(1, 0, 0, 0, b, a, 0, table(r(-1, 5, 0.2 - 0.1), r(-3.5, -2, 0.2)));
        gives(2, 0, 0, 0, a, b, 0, table(r(0.75, -6, 0.1 * 0.2), r(2, 15, -0.0)));
        gives(3, 0, 0, 0, a, b, 0, table(r(3, -2.0 / 3, 0.1 / 0.2), r(8, 5.0 / 3, -0.0)));
        gives(8, 0, 0, 0, a, b, 1, table(r(0, 1, 1), r(0, 0, 1)));
        gives(8, 0, 0, 0, a, a, 1, table(r(0, 0, 0), r(0, 0, 0)));
        gives(0, 0, 0, 0, table(r(1, 2)), table(r(10), r(20)), 0, table(r(11, 12), r(21, 22)));
        gives(1, 0, 0, 0, table(r(1), r(2)), table(r(10, 20)), 0, table(r(-9, -19), r(-8, -18)));
    }

    private static void pairsOfInts() {
        double[][] a = table(r(7, -7), r(3, -1000));
        double[][] b = table(r(2), r(-3));
        gives(0, 0, 0, 1, a, b, 1, table(r(9, -5), r(0, -1003)));
        gives(1, 0, 0, 1, a, b, 1, table(r(5, -9), r(6, -997)));
        gives(2, 0, 0, 1, a, b, 1, table(r(14, -14), r(-9, 3000)));
        gives(3, 0, 0, 1, a, b, 1, table(r(3, -3), r(-1, 333)));
        gives(8, 0, 0, 1, a, b, 1, table(r(0, 1), r(0, 1)));

        GraphRunner x = new GraphRunner();
        Expect.fillType(x, 0, 1, table(r(1000, -1000)));
        x.node(2, 0, 0, -1, 1, 0, 0);
        x.node(2, 1, 0, -1, 2, 0, 0);
        x.node(2, 2, 0, -1, 3, 0, 0);
        x.node(0, 2, 2, -1, 4, 0, 0);
        x.node(0, 4, 2, -1, 5, 0, 0);
        x.node(13, 5, 5, -1, 6, 0, 0);
        x.node(10, 6, -1, -1, 7, 0, 0);
        x.prepare();
        x.run(3);
        x.run(7);
        int thousands = 1000 * 1000 * 1000;
        Expect.holds("wraps", x, 3, 1, table(r(thousands * 1000, thousands * 1000)));
        Expect.holds("ints are never too large", x, 4, 1, table(r(thousands * 2, -2 * thousands)));
        Expect.holds("sums wrap", x, 5, 1, table(r(thousands * 3, thousands * -3)));
        Expect.holds("sums over rows wrap", x, 7, 1, table(r(thousands * 6, thousands * -6)));
    }

    private static void division() {
        for (int type = 0; type <= 1; type++) {
            GraphRunner x = worked(3, 0, 0, type, table(r(1, 2), r(0, 3)), table(r(1, 0)));
            Expect.fails("by 0", Expect.ARITHMETIC, () -> x.run(9));
            x.set(1, 0, 1, -0.0);
            Expect.fails("by -0.0", Expect.ARITHMETIC, () -> x.run(9));
            Expect.fails("no outcome", Expect.MISSING, () -> x.get(9, 0, 0));
            x.set(1, 0, 1, 2);
            Expect.answers("by 2", 1, () -> x.run(9));
            GraphRunner zero = worked(3, 0, 0, type, table(r(0)), table(r(0)));
            Expect.fails("0 by 0", Expect.ARITHMETIC, () -> zero.run(9));
        }
        GraphRunner least = new GraphRunner();
        Expect.fillType(least, 0, 1, table(r(512)));
        Expect.fillType(least, 1, 1, table(r(-8)));
        Expect.fillType(least, 2, 1, table(r(-1)));
        least.node(2, 0, 0, -1, 3, 0, 0);
        least.node(2, 3, 0, -1, 4, 0, 0);
        least.node(2, 4, 1, -1, 5, 0, 0);
        least.node(0, 5, 5, -1, 6, 0, 0);
        least.node(3, 6, 2, -1, 7, 0, 0);
        least.prepare();
        Expect.answers("the least int by -1", 5, () -> least.run(7));
        Expect.answers("wraps", Integer.MIN_VALUE, () -> least.get(7, 0, 0));
    }

    private static void products() {
        gives(4, 0, 0, 0, table(r(1, 2, 3), r(4, 5, 6)), table(r(1, -1), r(0.5, 2), r(-2, 3)), 0,
                table(r(-4, 12), r(-5.5, 24)));
        double sum = 0.0 + 0.1 * 3;
        sum = sum + 0.7 * 0.2;
        sum = sum + -0.3 * 1.1;
        gives(4, 0, 0, 0, table(r(0.1, 0.7, -0.3)), table(r(3), r(0.2), r(1.1)), 0, table(r(sum)));
        gives(4, 0, 0, 0, table(r(-0.0)), table(r(1)), 0, table(r(0.0)));
    }

    private static void ofOne() {
        gives(5, 0, 0, 0, table(r(-1.5, -0.0, 0, 2.5)), null, 0, table(r(0.0, 0.0, 0.0, 2.5)));
        gives(6, 0, 0, 0, table(r(1, 2, 3), r(4, 5, 6)), null, 0, table(r(1, 4), r(2, 5), r(3, 6)));
        gives(6, 0, 0, 1, table(r(1, 2)), null, 1, table(r(1), r(2)));
        gives(7, 1, 0, 0, table(r(1.9, -1.9, -0.5, 2)), null, 1, table(r(1, -1, 0, 2)));
        gives(7, 0, 0, 0, table(r(1.9, -0.0)), null, 0, table(r(1.9, -0.0)));
        gives(7, 0, 0, 1, table(r(3, -4)), null, 0, table(r(3, -4)));
        gives(7, 1, 0, 1, table(r(3, -4)), null, 1, table(r(3, -4)));
        gives(18, -1, 2, 0, table(r(-1.5, -1, 2, 2.5)), null, 0, table(r(-1, -1, 2, 2)));
        gives(18, 0, 0, 0, table(r(-1, -0.0, 1)), null, 0, table(r(0.0, -0.0, 0.0)));
        gives(18, 2, -3, 0, table(r(1, 2, 3, -4)), null, 0, table(r(2, -3, -3, 2)));
    }

    private static void choices() {
        GraphRunner x = new GraphRunner();
        Expect.fillType(x, 0, 0, table(r(1, 2)));
        Expect.fillType(x, 1, 0, table(r(10), r(20)));
        Expect.fillType(x, 2, 1, table(r(0, -1)));
        Expect.fillType(x, 3, 1, table(r(1), r(0), r(3)));
        Expect.fillType(x, 4, 0, table(r(5, 6)));
        Expect.fillType(x, 5, 1, table(r(-7)));
        x.node(9, 0, 1, 2, 6, 0, 0);
        x.node(9, 0, 4, 3, 7, 0, 0);
        x.node(17, 0, 4, 5, 8, 0, 0);
        x.prepare();
        x.run(6);
        x.run(7);
        x.run(8);
        Expect.holds("where", x, 6, 0, table(r(10, 2), r(20, 2)));
        Expect.holds("where c has the most rows", x, 7, 0, table(r(1, 2), r(5, 6), r(1, 2)));
        Expect.holds("choice of a", x, 8, 0, table(r(1, 2)));
        x.set(5, 0, 0, 0);
        x.run(8);
        Expect.holds("choice of b", x, 8, 0, table(r(5, 6)));

        GraphRunner lying = new GraphRunner();
        Expect.fillType(lying, 0, 1, table(r(1, 2, 3, 4)));
        Expect.fillType(lying, 1, 1, table(r(9)));
        Expect.fillType(lying, 2, 1, table(r(1, 0, 0, 1)));
        lying.node(9, 0, 1, 2, 3, 0, 0);
        lying.prepare();
        lying.run(3);
        Expect.holds("where of one row", lying, 3, 1, table(r(1, 9, 9, 4)));
    }

    private static void gathered() {
        double[][] a = table(r(1, 5, -3), r(4, 5, -0.5));
        gives(10, 0, 0, 0, a, null, 0, table(r(5, 10, -3.5)));
        gives(10, 1, 0, 0, a, null, 0, table(r(3), r(8.5)));
        gives(10, 1, 0, 0, table(r(0.1, 0.2, 0.3, -0.6)), null, 0, table(r(0.0 + 0.1 + 0.2 + 0.3 - 0.6)));
        gives(10, 0, 0, 0, table(r(-0.0)), null, 0, table(r(0.0)));
        gives(10, 1, 0, 1, table(r(1000, -1, 7)), null, 1, table(r(1006)));
        gives(11, 0, 0, 0, a, null, 0, table(r(4, 5, -0.5)));
        gives(11, 1, 0, 0, a, null, 0, table(r(5), r(5)));
        gives(11, 1, 0, 0, table(r(-3, -2), r(-2, -3)), null, 0, table(r(-2), r(-2)));
        gives(11, 1, 0, 0, table(r(-0.0, 0.0)), null, 0, table(r(-0.0)));
        gives(11, 0, 0, 1, table(r(-5), r(-4)), null, 1, table(r(-4)));
        gives(12, 0, 0, 0, table(r(1, 5, 5), r(-1, -2, -3), r(0, 1, 2)), null, 1, table(r(1), r(0), r(2)));
        gives(12, 0, 0, 1, table(r(-5, -4, -4)), null, 1, table(r(1)));
        gives(12, 0, 0, 0, table(r(0, 1), r(0, 1), r(1, 0), r(0, 1)), null, 1, table(r(1), r(1), r(0), r(1)));
    }

    private static void rows() {
        gives(13, 0, 0, 0, table(r(1, 2)), table(r(3, 4), r(5, 6)), 0, table(r(1, 2), r(3, 4), r(5, 6)));
        gives(13, 1, 0, 1, table(r(1), r(2)), table(r(3, 4), r(5, 6)), 1, table(r(1, 3, 4), r(2, 5, 6)));
        double[][] a = table(r(1, 2), r(3, 4), r(5, 6));
        gives(14, 1, 2, 0, a, null, 0, table(r(3, 4), r(5, 6)));
        gives(14, 0, 0, 1, a, null, 1, table(r(1, 2)));
        gives(15, 0, 0, 0, a, table(r(2, 0, -1, -3)), 0, table(r(5, 6), r(1, 2), r(5, 6), r(1, 2)));
        gives(15, 0, 0, 1, a, table(r(1)), 1, table(r(3, 4)));
        for (double named : new double[] {3, -4, 1000, -1000}) {
            GraphRunner x = worked(15, 0, 0, 0, a, table(r(0, named)));
            Expect.fails("row " + named, Expect.INDEX, () -> x.run(9));
            Expect.fails("no outcome", Expect.MISSING, () -> x.get(9, 0, 0));
        }
    }

    private static void slides() {
        double[][] a = table(r(1, 2, 3), r(4, 5, 6));
        gives(16, 1, 0, 0, a, table(r(10, 1)), 0, table(r(12, 23), r(45, 56)));
        gives(16, 1, 1, 0, a, table(r(10, 1)), 0, table(r(1, 12, 23, 30), r(4, 45, 56, 60)));
        gives(16, 2, 2, 0, a, table(r(100, 10, 1)), 0, table(r(1, 123, 300), r(4, 456, 600)));
        gives(16, 2, 0, 0, table(r(1, 2, 3, 4)), table(r(10, 1)), 0, table(r(12, 34)));
        gives(16, 2, 0, 0, a, table(r(7)), 0, table(r(7, 21), r(28, 42)));
        gives(16, 1, 1, 0, table(r(0.5)), table(r(-1, 2)), 0, table(r(1, -0.5)));
        gives(16, 2, 1, 0, table(r(0.5)), table(r(-1)), 0, table(r(0.0, 0.0)));
        double sum = 0.0 + 0.1 * 0.3;
        sum = sum + 0.7 * 0.2;
        sum = sum + -0.9 * 1.1;
        gives(16, 1, 0, 0, table(r(0.1, 0.7, -0.9)), table(r(0.3, 0.2, 1.1)), 0, table(r(sum)));
    }

    private static void tooLarge() {
        for (int sign = -1; sign <= 1; sign += 2) {
            GraphRunner x = new GraphRunner();
            Expect.fillType(x, 0, 0, table(r(1000)));
            Expect.fillType(x, 1, 0, table(r(sign * 1000)));
            Expect.fillType(x, 2, 0, table(r(sign * 1e-6)));
            x.node(2, 0, 0, -1, 3, 0, 0);
            x.node(2, 3, 1, -1, 4, 0, 0);
            x.node(0, 4, 2, -1, 5, 0, 0);
            x.node(13, 4, 0, -1, 6, 1, 0);
            x.node(16, 6, 6, -1, 7, 1, 0);
            x.node(4, 4, 4, -1, 8, 0, 0);
            x.node(7, 4, -1, -1, 9, 1, 0);
            x.node(0, 9, 9, -1, 10, 0, 0);
            x.node(7, 10, -1, -1, 11, 0, 0);
            x.node(13, 6, 4, -1, 12, 1, 0);
            x.node(10, 12, -1, -1, 13, 1, 0);
            x.prepare();
            Expect.answers("just as large as may be", 2, () -> x.run(4));
            Expect.answers("just as large as may be", sign * 1e9, () -> x.get(4, 0, 0));
            Expect.fails("a little larger", Expect.ARITHMETIC, () -> x.run(5));
            Expect.fails("slide", Expect.ARITHMETIC, () -> x.run(7));
            Expect.fails("product", Expect.ARITHMETIC, () -> x.run(8));
            Expect.answers("ints", 2, () -> x.run(10));
            Expect.fails("ints cast to floats", Expect.ARITHMETIC, () -> x.run(11));
            Expect.fails("sum", Expect.ARITHMETIC, () -> x.run(13));
            Expect.answers("thrown", 5, () -> x.count(5));
        }
        GraphRunner tiny = worked(3, 0, 0, 0, table(r(1, 1000)), table(r(1, Double.MIN_VALUE)));
        Expect.fails("by the least double", Expect.ARITHMETIC, () -> tiny.run(9));

        GraphRunner between = new GraphRunner();
        Expect.fillType(between, 0, 0, table(r(1000, 1000)));
        Expect.fillType(between, 1, 0, table(r(1000), r(-1000)));
        between.node(2, 0, 0, -1, 2, 0, 0);
        between.node(2, 1, 1, -1, 3, 0, 0);
        between.node(2, 3, 1, -1, 4, 0, 0);
        between.node(4, 2, 4, -1, 5, 0, 0);
        between.prepare();
        Expect.answers("large on the way is fine", 4, () -> between.run(5));
        Expect.answers("what is given counts", 0, () -> between.get(5, 0, 0));
    }

    private static void largestTables() {
        double[][] a = table(r(1, 2, 3, 4), r(5, 6, 7, 8), r(9, 10, 11, 12), r(13, 14, 15, 16));
        double[][] unit = table(r(1, 0, 0, 0), r(0, 1, 0, 0), r(0, 0, 1, 0), r(0, 0, 0, 1));
        double[][] twice = table(r(2, 4, 6, 8), r(10, 12, 14, 16), r(18, 20, 22, 24), r(26, 28, 30, 32));
        double[][] zero = table(r(0, 0, 0, 0), r(0, 0, 0, 0), r(0, 0, 0, 0), r(0, 0, 0, 0));
        double[][] one = table(r(1, 1, 1, 1), r(1, 1, 1, 1), r(1, 1, 1, 1), r(1, 1, 1, 1));
        double[][] turned = table(r(1, 5, 9, 13), r(2, 6, 10, 14), r(3, 7, 11, 15), r(4, 8, 12, 16));
        for (int type = 0; type <= 1; type++) {
            gives(0, 0, 0, type, a, a, type, twice);
            gives(1, 0, 0, type, a, a, type, zero);
            gives(2, 0, 0, type, a, table(r(2)), type, twice);
            gives(3, 0, 0, type, a, a, type, one);
            gives(8, 0, 0, type, a, a, 1, zero);
            gives(8, 0, 0, type, a, twice, 1, one);
            gives(6, 0, 0, type, a, null, type, turned);
            gives(7, 1, 0, type, a, null, 1, a);
            gives(10, 0, 0, type, a, null, type, table(r(28, 32, 36, 40)));
            gives(10, 1, 0, type, a, null, type, table(r(10), r(26), r(42), r(58)));
            gives(11, 0, 0, type, a, null, type, table(r(13, 14, 15, 16)));
            gives(11, 1, 0, type, a, null, type, table(r(4), r(8), r(12), r(16)));
            gives(12, 0, 0, type, a, null, 1, table(r(3), r(3), r(3), r(3)));
            gives(14, 0, 3, type, a, null, type, a);
            gives(14, 2, 3, type, a, null, type, table(r(9, 10, 11, 12), r(13, 14, 15, 16)));
            gives(15, 0, 0, type, a, table(r(0, -3, 2, -1)), type, a);
            choiceOfLargest(type, a, twice);
        }
        gives(4, 0, 0, 0, a, unit, 0, a);
        gives(5, 0, 0, 0, a, null, 0, a);
        gives(18, 0, 2, 0, unit, null, 0, unit);
        gives(16, 1, 0, 0, a, table(r(2)), 0, twice);
        gives(16, 2, 2, 0, a, table(r(2)), 0,
                table(r(0, 2, 6, 0), r(0, 10, 14, 0), r(0, 18, 22, 0), r(0, 26, 30, 0)));
        gives(16, 1, 0, 0, a, table(r(1, 0, 0, 1)), 0, table(r(5), r(13), r(21), r(29)));
    }

    private static void choiceOfLargest(int type, double[][] a, double[][] b) {
        GraphRunner x = new GraphRunner();
        Expect.fillType(x, 0, type, a);
        Expect.fillType(x, 1, type, b);
        Expect.fillType(x, 2, 1, table(r(1, 1, 1, 1), r(1, 1, 1, 1), r(1, 1, 1, 1), r(1, 1, 1, 0)));
        Expect.fillType(x, 3, 1, table(r(1)));
        x.node(9, 0, 1, 2, 4, 0, 0);
        x.node(17, 0, 1, 3, 5, 0, 0);
        x.prepare();
        x.run(4);
        x.run(5);
        Expect.holds("where", x, 4, type, table(a[0], a[1], a[2], r(13, 14, 15, 32)));
        Expect.holds("choice", x, 5, type, a);
    }

    private static void longAndNarrow() {
        double[][] lying = table(r(-1, -2, -3, -4));
        double[][] standing = table(r(-1), r(-2), r(-3), r(-4));
        for (int type = 0; type <= 1; type++) {
            gives(0, 0, 0, type, lying, lying, type, table(r(-2, -4, -6, -8)));
            gives(0, 0, 0, type, standing, standing, type, table(r(-2), r(-4), r(-6), r(-8)));
            gives(3, 0, 0, type, lying, lying, type, table(r(1, 1, 1, 1)));
            gives(3, 0, 0, type, standing, standing, type, table(r(1), r(1), r(1), r(1)));
            gives(6, 0, 0, type, lying, null, type, standing);
            gives(6, 0, 0, type, standing, null, type, lying);
            gives(7, 1, 0, type, lying, null, 1, lying);
            gives(7, 1, 0, type, standing, null, 1, standing);
            gives(10, 0, 0, type, lying, null, type, lying);
            gives(10, 1, 0, type, lying, null, type, table(r(-10)));
            gives(10, 0, 0, type, standing, null, type, table(r(-10)));
            gives(10, 1, 0, type, standing, null, type, standing);
            gives(11, 0, 0, type, lying, null, type, lying);
            gives(11, 1, 0, type, lying, null, type, table(r(-1)));
            gives(11, 0, 0, type, standing, null, type, table(r(-1)));
            gives(11, 1, 0, type, standing, null, type, standing);
            gives(12, 0, 0, type, standing, null, 1, table(r(0), r(0), r(0), r(0)));
            gives(13, 0, 0, type, table(r(-1)), table(r(-2), r(-3), r(-4)), type, standing);
            gives(13, 1, 0, type, table(r(-1)), table(r(-2, -3, -4)), type, lying);
            gives(14, 0, 3, type, standing, null, type, standing);
            gives(14, 0, 0, type, lying, null, type, lying);
            gives(15, 0, 0, type, standing, table(r(0, 1, 2, 3)), type, standing);
            gives(15, 0, 0, type, lying, table(r(0)), type, lying);
        }
        gives(4, 0, 0, 0, lying, standing, 0, table(r(30)));
        gives(4, 0, 0, 0, standing, table(r(2)), 0, table(r(-2), r(-4), r(-6), r(-8)));
        gives(4, 0, 0, 0, table(r(2)), lying, 0, table(r(-2, -4, -6, -8)));
        gives(5, 0, 0, 0, table(r(0.01), r(Double.MIN_VALUE)), null, 0, table(r(0.01), r(Double.MIN_VALUE)));
        gives(16, 1, 0, 0, standing, table(r(2)), 0, table(r(-2), r(-4), r(-6), r(-8)));
        GraphRunner last = worked(2, 0, 0, 0, table(r(0), r(0), r(0), r(1000)), table(r(1000)));
        last.node(2, 9, 1, -1, 10, 0, 0);
        last.node(2, 10, 1, -1, 11, 0, 0);
        last.prepare();
        Expect.fails("too large in the last row", Expect.ARITHMETIC, () -> last.run(11));
    }

    private static void workedOutAgain() {
        for (int p = 0; p <= 1; p++) {
            for (int op = 10; op <= 11; op++) {
                GraphRunner x = worked(op, p, 0, 0, table(r(9, 9), r(9, 9)), null);
                x.run(9);
                for (int k = 0; k < 4; k++) {
                    x.set(0, k / 2, k % 2, -2);
                }
                x.run(9);
                double due = op == 10 ? -4 : -2;
                Expect.holds("op " + op + " again", x, 9, 0, p == 0 ? table(r(due, due)) : table(r(due), r(due)));
            }
        }
    }
}
