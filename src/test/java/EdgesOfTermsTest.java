/** The boundary cases of the document's "Terms" up to FITTING, sentence by sentence. */
final class EdgesOfTermsTest {
    private static final int[] NO_SLOTS = {-1, 20, -2, 21, Integer.MIN_VALUE, Integer.MAX_VALUE};

    public static void main(String[] args) {
        Expect.sentence("A TABLE has a TYPE, 0 FLOAT (doubles) or 1 INT (ints, wrapping)", EdgesOfTermsTest::types);
        Expect.sentence("0 FLOAT (doubles)", EdgesOfTermsTest::doubles);
        Expect.sentence("1 INT (ints, wrapping)", EdgesOfTermsTest::intsWrap);
        Expect.sentence("a SHAPE, R rows and C columns, 1 to 4 each", EdgesOfTermsTest::shapes);
        Expect.sentence("SLOTS 0 .. 19", EdgesOfTermsTest::slots);
        Expect.sentence("free, or INPUTS or CONSTANTS (with a TABLE), or the OUTCOME of a NODE",
                EdgesOfTermsTest::kindsOfSlots);
        Expect.sentence("NODES 0, 1, .. (at most 14)", EdgesOfTermsTest::fourteenNodes);
        Expect.sentence("up to three ARGUMENTS, SLOTS, in order", EdgesOfTermsTest::argumentsInOrder);
        Expect.sentence("two numbers p and q (-8 .. 8)", EdgesOfTermsTest::numbers);
        Expect.sentence("Doubles are reckoned as Java does, in the order said.", EdgesOfTermsTest::asJavaDoes);
        Expect.sentence("above 1000000000.0", () -> tooLarge(1));
        Expect.sentence("below -1000000000.0", () -> tooLarge(-1));
        Expect.sentence("in what a NODE gives is TOO LARGE", EdgesOfTermsTest::whatANodeGives);
        Expect.sentence("TOO LARGE: ArithmeticException.", EdgesOfTermsTest::oneCellTooLarge);
        Expect.sentence("two SHAPES fit if their R are the same or one of them is 1, and likewise C; the outcome has "
                + "the greater ones", EdgesOfTermsTest::fitting);
        Expect.sentence("a TABLE with 1 is taken again and again", EdgesOfTermsTest::againAndAgain);
        Expect.end();
    }

    private static void types() {
        for (int type : new int[] {Integer.MIN_VALUE, -2, -1, 2, 3, Integer.MAX_VALUE}) {
            GraphRunner x = new GraphRunner();
            Expect.fails("type " + type, Expect.BAD, () -> x.table(0, type, 1, 1, false));
            Expect.fails("type " + type, Expect.BAD, () -> x.table(0, type, 1, 1, true));
        }
        for (int type = 0; type <= 1; type++) {
            int given = type;
            GraphRunner x = new GraphRunner();
            Expect.works("type " + type, () -> x.table(0, given, 1, 1, false));
            Expect.answers("type " + type, type, () -> x.slot(0, 1));
        }
    }

    private static void doubles() {
        double[] held = {0.1, Double.MIN_VALUE, -Double.MIN_VALUE, Math.nextDown(1000.0), 1.0 / 3};
        GraphRunner x = new GraphRunner();
        x.table(0, 0, 1, 1, false);
        x.node(6, 0, -1, -1, 1, 0, 0);
        x.prepare();
        for (double v : held) {
            x.set(0, 0, 0, v);
            Expect.answers("held " + v, v, () -> x.get(0, 0, 0));
            x.run(1);
            Expect.answers("passed on " + v, v, () -> x.get(1, 0, 0));
        }
    }

    /** Slot 7 holds the greatest int and the least one, neither of which came by wrapping. */
    private static GraphRunner extremes(boolean constant) {
        GraphRunner x = new GraphRunner();
        Tables.feed(x, 0, constant, Tables.ints(Tables.r(512, 512)));
        Tables.feed(x, 1, constant, Tables.ints(Tables.r(8, -8)));
        Tables.feed(x, 2, constant, Tables.ints(Tables.r(1, 0)));
        x.node(2, 0, 0, -1, 3, 0, 0);
        x.node(2, 3, 0, -1, 4, 0, 0);
        x.node(2, 4, 1, -1, 5, 0, 0);
        x.node(1, 5, 2, -1, 6, 0, 0);
        x.node(0, 6, 5, -1, 7, 0, 0);
        return x;
    }

    /** What an op makes of the greatest int and the least one, and of b if it has two arguments. */
    private static void ofExtremes(int op, int p, Tables.Table due, double... b) {
        for (int constant = 0; constant <= 1; constant++) {
            GraphRunner x = extremes(constant == 1);
            if (b.length > 0) {
                Tables.feed(x, 8, constant == 1, Tables.ints(b));
            }
            x.node(op, 7, b.length > 0 ? 8 : -1, -1, 9, p, 0);
            Expect.answers("op " + op + " folded", constant == 1 ? 6 : 0, x::prepare);
            Expect.answers("op " + op + " run", constant == 1 ? 0 : 6, () -> x.run(9));
            Expect.holds("op " + op, x, 9, due.type(), due.rows());
        }
    }

    private static void intsWrap() {
        int most = Integer.MAX_VALUE;
        int least = Integer.MIN_VALUE;
        ofExtremes(6, 0, Tables.ints(Tables.r(most), Tables.r(least)));
        ofExtremes(0, 0, Tables.ints(Tables.r(least, most)), 1, -1);
        ofExtremes(0, 0, Tables.ints(Tables.r(most, least)), 0, 0);
        ofExtremes(1, 0, Tables.ints(Tables.r(least, most)), -1, 1);
        ofExtremes(2, 0, Tables.ints(Tables.r(-2, 0)), 2, 2);
        ofExtremes(2, 0, Tables.ints(Tables.r(most - 2, least)), 3, 3);
        ofExtremes(2, 0, Tables.ints(Tables.r(-most, least)), -1, -1);
        ofExtremes(3, 0, Tables.ints(Tables.r(-most, least)), -1, -1);
        ofExtremes(3, 0, Tables.ints(Tables.r(most / 2, least / 2)), 2, 2);
        ofExtremes(10, 1, Tables.ints(Tables.r(-1)));
        ofExtremes(10, 0, Tables.ints(Tables.r(most, least)));
        ofExtremes(11, 1, Tables.ints(Tables.r(most)));
        ofExtremes(12, 0, Tables.ints(Tables.r(0)));
        ofExtremes(7, 1, Tables.ints(Tables.r(most, least)));
        ofExtremes(8, 0, Tables.ints(Tables.r(0, 1)), -1, 1);
        sumsWrap();
    }

    private static void sumsWrap() {
        GraphRunner x = extremes(false);
        Tables.feed(x, 8, false, Tables.ints(Tables.r(1, -1)));
        x.node(13, 7, 8, -1, 10, 0, 0);
        x.node(10, 10, -1, -1, 11, 0, 0);
        x.node(6, 10, -1, -1, 12, 0, 0);
        x.node(10, 12, -1, -1, 13, 1, 0);
        x.prepare();
        x.run(11);
        x.run(13);
        Expect.holds("sums over rows", x, 11, 1, Expect.row(Integer.MIN_VALUE, Integer.MAX_VALUE));
        Expect.holds("sums over columns", x, 13, 1,
                Expect.rows(Expect.of(Integer.MIN_VALUE), Expect.of(Integer.MAX_VALUE)));
    }

    private static void shapes() {
        int[] sides = {Integer.MIN_VALUE, -4, -1, 0, 1, 2, 3, 4, 5, 6, 16, Integer.MAX_VALUE};
        for (int rows : sides) {
            for (int columns : sides) {
                GraphRunner x = new GraphRunner();
                String what = rows + " x " + columns;
                if (rows < 1 || rows > 4 || columns < 1 || columns > 4) {
                    Expect.fails(what, Expect.BAD, () -> x.table(0, 0, rows, columns, false));
                    Expect.answers(what + " free", 0, () -> x.slot(0, 0));
                } else {
                    x.table(0, 1, rows, columns, true);
                    Expect.holds(what, x, 0, 1, new double[rows][columns]);
                }
            }
        }
    }

    private static void slots() {
        for (int s = 0; s <= 19; s++) {
            int taken = s;
            int other = (s + 1) % 20;
            GraphRunner x = new GraphRunner();
            Expect.works("table " + s, () -> x.table(taken, 0, 1, 1, false));
            Expect.works("set " + s, () -> x.set(taken, 0, 0, 7));
            Expect.answers("node " + s, 0, () -> x.node(9, taken, taken, taken, other, 0, 0));
            x.undo();
            Expect.answers("outcome " + other, 0, () -> x.node(5, taken, -1, -1, other, 0, 0));
            x.prepare();
            Expect.answers("run " + other, 1, () -> x.run(other));
            Expect.answers("get " + other, 7, () -> x.get(other, 0, 0));
            Expect.answers("kind of " + s, 1, () -> x.slot(taken, 0));
            Expect.answers("kind of " + other, 3, () -> x.slot(other, 0));
        }
        for (int s : NO_SLOTS) {
            GraphRunner x = new GraphRunner();
            x.table(0, 1, 1, 1, false);
            Expect.fails("table " + s, Expect.BAD, () -> x.table(s, 0, 1, 1, false));
            Expect.fails("set " + s, Expect.BAD, () -> x.set(s, 0, 0, 0));
            Expect.fails("first argument " + s, Expect.BAD, () -> x.node(9, s, 0, 0, 1, 0, 0));
            Expect.fails("second argument " + s, Expect.BAD, () -> x.node(9, 0, s, 0, 1, 0, 0));
            Expect.fails("third argument " + s, Expect.BAD, () -> x.node(9, 0, 0, s, 1, 0, 0));
            Expect.fails("outcome " + s, Expect.BAD, () -> x.node(9, 0, 0, 0, s, 0, 0));
            Expect.fails("run " + s, Expect.BAD, () -> x.run(s));
            Expect.fails("get " + s, Expect.BAD, () -> x.get(s, 0, 0));
            Expect.fails("slot " + s, Expect.BAD, () -> x.slot(s, 0));
        }
    }

    private static void kindsOfSlots() {
        GraphRunner x = new GraphRunner();
        x.table(0, 0, 1, 1, false);
        x.table(1, 0, 1, 1, true);
        x.node(5, 0, -1, -1, 2, 0, 0);
        for (int taken = 0; taken <= 2; taken++) {
            int s = taken;
            Expect.fails("slot " + s + " taken for a table", Expect.BAD, () -> x.table(s, 0, 1, 1, true));
            Expect.fails("slot " + s + " taken for an outcome", Expect.BAD, () -> x.node(5, 0, -1, -1, s, 0, 0));
        }
        int[] due = {1, 2, 3, 0};
        for (int s = 0; s < due.length; s++) {
            int asked = s;
            Expect.answers("kind of slot " + s, due[s], () -> x.slot(asked, 0));
        }
    }

    private static void fourteenNodes() {
        GraphRunner x = new GraphRunner();
        Tables.feed(x, 19, false, Tables.floats(Tables.r(3)));
        for (int n = 0; n < 14; n++) {
            int number = n;
            Expect.answers("node " + n, n, () -> x.node(5, 19, -1, -1, number, 0, 0));
            Expect.answers("nodes " + n, n + 1, () -> x.count(0));
        }
        Expect.fails("the fifteenth", Expect.STATE, () -> x.node(5, 19, -1, -1, 14, 0, 0));
        Expect.answers("fourteen still", 14, () -> x.count(0));
        Expect.works("prepare", x::prepare);
        Expect.answers("the last one's place", 13, () -> x.count(23));
        Expect.answers("the last one's outcome", 1, () -> x.run(13));
        Expect.answers("the last one's outcome", 3, () -> x.get(13, 0, 0));
    }

    private static void argumentsInOrder() {
        Tables.Table a = Tables.ints(Tables.r(7));
        Tables.Table b = Tables.ints(Tables.r(2));
        Tables.gives(1, 0, 0, Tables.ints(Tables.r(5)), a, b);
        Tables.gives(3, 0, 0, Tables.ints(Tables.r(3)), a, b);
        Tables.gives(8, 0, 0, Tables.ints(Tables.r(0)), a, b);
        Tables.gives(8, 0, 0, Tables.ints(Tables.r(1)), b, a);
        Tables.gives(13, 0, 0, Tables.ints(Tables.r(7), Tables.r(2)), a, b);
        Tables.gives(9, 0, 0, a, a, b, Tables.ints(Tables.r(1)));
        Tables.gives(17, 0, 0, b, a, b, Tables.ints(Tables.r(0)));
        Tables.gives(4, 0, 0, Tables.floats(Tables.r(3, 4), Tables.r(6, 8)),
                Tables.floats(Tables.r(1), Tables.r(2)), Tables.floats(Tables.r(3, 4)));
    }

    private static void numbers() {
        for (int number = -8; number <= 8; number++) {
            int given = number;
            GraphRunner x = new GraphRunner();
            Expect.answers("p " + given, 0, () -> x.node(18, 0, -1, -1, 1, given, 0));
            Expect.answers("q " + given, 1, () -> x.node(18, 0, -1, -1, 2, 0, given));
            Expect.answers("p and q " + given, 2, () -> x.node(18, 0, -1, -1, 3, given, -given));
        }
        for (int number : new int[] {-9, 9, -10, 10, Integer.MIN_VALUE, Integer.MAX_VALUE}) {
            for (int op = 0; op <= 18; op++) {
                int asked = op;
                int b = "2 2 2 2 2 1 1 1 2 3 1 1 1 2 1 2 2 3 1".charAt(2 * op) > '1' ? 0 : -1;
                int c = op == 9 || op == 17 ? 0 : -1;
                GraphRunner x = new GraphRunner();
                Expect.fails("p " + number + " of op " + op, Expect.BAD, () -> x.node(asked, 0, b, c, 1, number, 0));
                Expect.fails("q " + number + " of op " + op, Expect.BAD, () -> x.node(asked, 0, b, c, 1, 0, number));
                Expect.answers("8 and -8 of op " + op, 0, () -> x.node(asked, 0, b, c, 1, 8, -8));
            }
        }
        Tables.gives(18, -8, 8, Tables.floats(Tables.r(-8, 8, 7.5)), Tables.floats(Tables.r(-9, 9, 7.5)));
    }

    private static void asJavaDoes() {
        Tables.gives(0, 0, 0, Tables.floats(Tables.r(0.1 + 0.2, -0.0, 0.0)),
                Tables.floats(Tables.r(0.1, -0.0, -0.0)), Tables.floats(Tables.r(0.2, -0.0, 0.0)));
        Tables.gives(1, 0, 0, Tables.floats(Tables.r(0.3 - 0.1, -0.0, 0.0)),
                Tables.floats(Tables.r(0.3, -0.0, 5)), Tables.floats(Tables.r(0.1, 0.0, 5)));
        Tables.gives(2, 0, 0, Tables.floats(Tables.r(0.1 * 3, -0.0, 0.0)),
                Tables.floats(Tables.r(0.1, -2, Double.MIN_VALUE)), Tables.floats(Tables.r(3, 0, 0.25)));
        Tables.gives(3, 0, 0, Tables.floats(Tables.r(1.0 / 3, -0.0, 0.0)),
                Tables.floats(Tables.r(1, 0, Double.MIN_VALUE)), Tables.floats(Tables.r(3, -7, 1000)));
        // Added from the first on, these sums differ from those added from the last on.
        double[] cells = {0.1, 0.2, 0.3, -0.6};
        double sum = 0.0 + 0.1 + 0.2 + 0.3 - 0.6;
        Expect.look("the order matters", sum != -0.6 + 0.3 + 0.2 + 0.1, "the same", "another sum");
        Tables.Table standing = Tables.floats(Tables.r(0.1), Tables.r(0.2), Tables.r(0.3), Tables.r(-0.6));
        Tables.Table ones = Tables.filled(0, 1, 4, 1);
        Tables.gives(10, 1, 0, Tables.floats(Tables.r(sum)), Tables.floats(cells));
        Tables.gives(10, 0, 0, Tables.floats(Tables.r(sum)), standing);
        Tables.gives(4, 0, 0, Tables.floats(Tables.r(sum)), ones, standing);
        Tables.gives(16, 1, 0, Tables.floats(Tables.r(sum)), Tables.floats(cells), ones);
    }

    /** Slot 3 holds a billion with this sign, slot 4 the number given, as inputs. */
    private static GraphRunner billion(int sign, double other) {
        GraphRunner x = new GraphRunner();
        Tables.feed(x, 0, false, Tables.floats(Tables.r(1000)));
        Tables.feed(x, 1, false, Tables.floats(Tables.r(sign * 1000)));
        Tables.feed(x, 4, false, Tables.floats(Tables.r(other)));
        x.node(2, 0, 0, -1, 2, 0, 0);
        x.node(2, 2, 1, -1, 3, 0, 0);
        return x;
    }

    private static void large(int sign, int op, double other, boolean isTooLarge) {
        GraphRunner x = billion(sign, other);
        x.node(op, 3, 4, -1, 5, op == 16 ? 1 : 0, 0);
        x.prepare();
        String what = "op " + op + " of " + sign + " billion and " + other;
        Expect.answers(what + ": a billion is not too large", 2, () -> x.run(3));
        if (isTooLarge) {
            Expect.fails(what, Expect.ARITHMETIC, () -> x.run(5));
            Expect.fails(what + " gives nothing", Expect.MISSING, () -> x.get(5, 0, 0));
            Expect.answers(what + " thrown in one", 1, () -> x.count(5));
        } else {
            Expect.answers(what, 1, () -> x.run(5));
            Expect.answers(what, sign * 1e9, () -> x.get(5, 0, 0));
        }
    }

    private static void tooLarge(int sign) {
        // Less than half a step of doubles there adds nothing, more than half of one is a step.
        double half = 5e-8;
        double step = 7e-8;
        Expect.look("steps of doubles", 1e9 + half == 1e9 && 1e9 + step > 1e9, "not so", "so");
        large(sign, 0, 0, false);
        large(sign, 0, sign * half, false);
        large(sign, 0, sign * step, true);
        large(sign, 1, sign * -step, true);
        large(sign, 2, 1, false);
        large(sign, 2, Math.nextUp(1.0), true);
        large(sign, 2, 1000, true);
        large(sign, 3, 1, false);
        large(sign, 3, Math.nextDown(1.0), true);
        large(sign, 3, Double.MIN_VALUE, true);
        large(sign, 4, 1, false);
        large(sign, 4, Math.nextUp(1.0), true);
        large(sign, 16, 1000, true);
        gathered(sign, sign * half, false);
        gathered(sign, sign * step, true);
        Tables.thrown(3, 0, 0, Expect.ARITHMETIC,
                Tables.floats(Tables.r(sign * 1000)), Tables.floats(Tables.r(Double.MIN_VALUE)));
    }

    /** The sums of PRODUCT, SUM and SLIDE: a billion and a little more. */
    private static void gathered(int sign, double more, boolean isTooLarge) {
        GraphRunner x = billion(sign, more);
        Tables.feed(x, 5, false, Tables.floats(Tables.r(1, 1)));
        x.node(13, 3, 4, -1, 6, 1, 0);
        x.node(6, 6, -1, -1, 7, 0, 0);
        x.node(10, 6, -1, -1, 10, 1, 0);
        x.node(10, 7, -1, -1, 11, 0, 0);
        x.node(16, 6, 5, -1, 12, 1, 0);
        x.node(4, 5, 7, -1, 13, 0, 0);
        x.prepare();
        for (int s = 10; s <= 13; s++) {
            int asked = s;
            String what = "slot " + s + ", a billion and " + more;
            if (isTooLarge) {
                Expect.fails(what, Expect.ARITHMETIC, () -> x.run(asked));
            } else {
                Expect.works(what, () -> x.run(asked));
                Expect.answers(what, sign * 1e9, () -> x.get(asked, 0, 0));
            }
        }
        Expect.answers("thrown", isTooLarge ? 4 : 0, () -> x.count(5));
    }

    private static void whatANodeGives() {
        for (int sign = -1; sign <= 1; sign += 2) {
            largeOnTheWay(sign);
            largeButPassedOn(sign);
            largeInts(sign);
        }
    }

    private static void largeOnTheWay(int sign) {
        GraphRunner x = billion(sign, sign);
        Tables.feed(x, 5, false, Tables.floats(Tables.r(1000, 1000, -1000, -1000)));
        x.node(13, 3, 3, -1, 6, 1, 0);
        x.node(13, 6, 6, -1, 7, 1, 0);
        x.node(16, 7, 5, -1, 8, 1, 0);
        x.node(6, 7, -1, -1, 9, 0, 0);
        x.node(4, 5, 9, -1, 10, 0, 0);
        Tables.feed(x, 11, false, Tables.floats(Tables.r(1, 1, 1, -1)));
        x.node(2, 7, 11, -1, 12, 0, 0);
        x.node(14, 12, -1, -1, 13, 0, 0);
        Tables.feed(x, 14, false, Tables.floats(Tables.r(1, 1, -1, -1)));
        x.node(2, 7, 14, -1, 15, 0, 0);
        x.node(10, 15, -1, -1, 16, 1, 0);
        x.prepare();
        Expect.works("slide", () -> x.run(8));
        Expect.answers("slide", 0, () -> x.get(8, 0, 0));
        Expect.works("product", () -> x.run(10));
        Expect.answers("product", 0, () -> x.get(10, 0, 0));
        Expect.works("sum", () -> x.run(16));
        Expect.answers("sum", 0, () -> x.get(16, 0, 0));
        Expect.works("each is a billion", () -> x.run(13));
        Expect.answers("none thrown", 0, () -> x.count(5));
    }

    private static void largeButPassedOn(int sign) {
        GraphRunner x = billion(sign, 0);
        Tables.feed(x, 5, false, Tables.ints(Tables.r(0)));
        int[][] nodes = {
            {6, 3, -1, -1, 0, 0}, {13, 3, 3, -1, 0, 0}, {11, 3, -1, -1, 1, 0}, {10, 3, -1, -1, 0, 0},
            {14, 3, -1, -1, 0, 0}, {15, 3, 5, -1, 0, 0}, {9, 4, 3, 5, 0, 0}, {17, 4, 3, 5, 0, 0},
            {7, 3, -1, -1, 0, 0}, {7, 3, -1, -1, 1, 0},
        };
        for (int n = 0; n < nodes.length; n++) {
            int[] node = nodes[n];
            x.node(node[0], node[1], node[2], node[3], 6 + n, node[4], node[5]);
        }
        x.node(5, 3, -1, -1, 18, 0, 0);
        x.node(18, 3, -1, -1, 19, -8, 8);
        x.prepare();
        for (int n = 0; n < nodes.length; n++) {
            int s = 6 + n;
            Expect.works("op " + nodes[n][0], () -> x.run(s));
            Expect.answers("op " + nodes[n][0], sign * 1e9, () -> x.get(s, 0, 0));
        }
        Expect.works("positive", () -> x.run(18));
        Expect.answers("positive", sign > 0 ? 1e9 : 0.0, () -> x.get(18, 0, 0));
        Expect.works("bound", () -> x.run(19));
        Expect.answers("bound", sign * 8, () -> x.get(19, 0, 0));
    }

    private static void largeInts(int sign) {
        GraphRunner x = billion(sign, 0);
        Tables.feed(x, 5, false, Tables.ints(Tables.r(sign)));
        x.node(7, 3, -1, -1, 6, 1, 0);
        x.node(0, 6, 5, -1, 7, 0, 0);
        x.node(7, 6, -1, -1, 8, 0, 0);
        x.node(7, 7, -1, -1, 9, 0, 0);
        x.prepare();
        Expect.answers("an int above a billion", 4, () -> x.run(7));
        Expect.answers("an int above a billion", sign * 1000000001.0, () -> x.get(7, 0, 0));
        Expect.answers("a billion as a float", 1, () -> x.run(8));
        Expect.answers("a billion as a float", sign * 1e9, () -> x.get(8, 0, 0));
        Expect.fails("one more as a float", Expect.ARITHMETIC, () -> x.run(9));
    }

    private static void oneCellTooLarge() {
        oneCellTooLarge(4, 4);
        oneCellTooLarge(4, 1);
        oneCellTooLarge(1, 4);
        oneCellTooLarge(3, 2);
    }

    private static void oneCellTooLarge(int rows, int columns) {
        for (int cell = 0; cell < rows * columns; cell++) {
            GraphRunner x = new GraphRunner();
            x.table(0, 0, rows, columns, false);
            x.table(1, 0, 1, 1, false);
            x.set(0, cell / columns, cell % columns, cell % 2 == 0 ? 1000 : -1000);
            x.set(1, 0, 0, 1000);
            x.node(2, 0, 1, -1, 2, 0, 0);
            x.node(2, 2, 1, -1, 3, 0, 0);
            x.node(2, 3, 1, -1, 4, 0, 0);
            x.prepare();
            Expect.answers("cell " + cell + ", a billion", 2, () -> x.run(3));
            Expect.fails("cell " + cell + ", more", Expect.ARITHMETIC, () -> x.run(4));
            Expect.answers("cell " + cell + ", known still", 2, () -> x.count(3));
            Expect.fails("cell " + cell + ", nothing given", Expect.MISSING, () -> x.get(4, 0, 0));
        }
    }

    private static boolean fit(int one, int other) {
        return one == other || one == 1 || other == 1;
    }

    private static void fitting() {
        for (int shapes = 0; shapes < 256; shapes++) {
            int aRows = 1 + shapes % 4;
            int aColumns = 1 + shapes / 4 % 4;
            int bRows = 1 + shapes / 16 % 4;
            int bColumns = 1 + shapes / 64;
            boolean due = fit(aRows, bRows) && fit(aColumns, bColumns);
            int rows = Math.max(aRows, bRows);
            int columns = Math.max(aColumns, bColumns);
            for (int op : new int[] {0, 1, 2, 3, 8}) {
                Tables.Table a = Tables.zeros(shapes % 2, aRows, aColumns);
                Tables.Table b = Tables.zeros(shapes % 2, bRows, bColumns);
                if (due) {
                    Tables.fits(op, 0, 0, op == 8 ? 1 : a.type(), rows, columns, a, b);
                } else {
                    Tables.unfit(op, 0, 0, a, b);
                }
            }
        }
    }

    private static void againAndAgain() {
        for (int shapes = 0; shapes < 256; shapes++) {
            int aRows = 1 + shapes % 4;
            int aColumns = 1 + shapes / 4 % 4;
            int bRows = 1 + shapes / 16 % 4;
            int bColumns = 1 + shapes / 64;
            if (fit(aRows, bRows) && fit(aColumns, bColumns)) {
                Tables.Table a = Tables.zeros(1, aRows, aColumns);
                Tables.Table b = Tables.zeros(1, bRows, bColumns);
                Tables.Table due = Tables.zeros(1, Math.max(aRows, bRows), Math.max(aColumns, bColumns));
                number(a, 100, 10);
                number(b, 2, 1);
                for (int k = 0; k < 16; k++) {
                    int i = k / 4;
                    int j = k % 4;
                    if (i < due.rows().length && j < due.rows()[0].length) {
                        due.rows()[i][j] = a.rows()[aRows == 1 ? 0 : i][aColumns == 1 ? 0 : j]
                                - b.rows()[bRows == 1 ? 0 : i][bColumns == 1 ? 0 : j];
                    }
                }
                Tables.gives(1, 0, 0, due, a, b);
            }
        }
    }

    /** Each row and each column begins with another number. */
    private static void number(Tables.Table table, int ofRow, int ofColumn) {
        for (int i = 0; i < table.rows().length; i++) {
            for (int j = 0; j < table.rows()[i].length; j++) {
                table.rows()[i][j] = i * ofRow + j * ofColumn;
            }
        }
    }
}
