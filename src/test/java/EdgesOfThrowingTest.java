/** What is thrown, in which order, and what it leaves as it was: sentence by sentence. */
final class EdgesOfThrowingTest {
    private static final int FREE = 9;

    interface Use {
        void of(GraphRunner x);
    }

    interface Make {
        GraphRunner make();
    }

    public static void main(String[] args) {
        Expect.sentence("\"Bad\" is IllegalArgumentException, a number out of range", EdgesOfThrowingTest::outOfRange);
        Expect.sentence("or a SLOT that isn't as said", EdgesOfThrowingTest::notAsSaid);
        Expect.sentence("first of all", EdgesOfThrowingTest::badComesFirst);
        Expect.sentence("\"Missing\" is java.util.NoSuchElementException", EdgesOfThrowingTest::missing);
        Expect.sentence("\"Unfit\" UnsupportedOperationException", EdgesOfThrowingTest::unfit);
        Expect.sentence("Not PREPARED, or no room: IllegalStateException", EdgesOfThrowingTest::state);
        Expect.sentence("(In the order in which a call names them.)", EdgesOfThrowingTest::inTheOrderNamed);
        Expect.sentence("What throws changes nothing", EdgesOfThrowingTest::changesNothing);
        Expect.sentence("but prepare() as said there", EdgesOfThrowingTest::prepareThatThrows);
        Expect.sentence("and run(): NODES that it worked out before are KNOWN", EdgesOfThrowingTest::runThatThrows);
        Expect.end();
    }

    private static void outOfRange() {
        GraphRunner x = new GraphRunner();
        x.table(0, 0, 2, 3, false);
        for (int far : new int[] {Integer.MIN_VALUE, -100, 100, Integer.MAX_VALUE}) {
            Expect.fails("table, slot " + far, Expect.BAD, () -> x.table(far, 0, 1, 1, false));
            Expect.fails("table, type " + far, Expect.BAD, () -> x.table(1, far, 1, 1, false));
            Expect.fails("table, rows " + far, Expect.BAD, () -> x.table(1, 0, far, 1, false));
            Expect.fails("table, columns " + far, Expect.BAD, () -> x.table(1, 0, 1, far, false));
            Expect.fails("set, slot " + far, Expect.BAD, () -> x.set(far, 0, 0, 0));
            Expect.fails("set, row " + far, Expect.BAD, () -> x.set(0, far, 0, 0));
            Expect.fails("set, column " + far, Expect.BAD, () -> x.set(0, 0, far, 0));
            Expect.fails("node, op " + far, Expect.BAD, () -> x.node(far, 0, 0, 0, 1, 0, 0));
            Expect.fails("node, a " + far, Expect.BAD, () -> x.node(17, far, 0, 0, 1, 0, 0));
            Expect.fails("node, b " + far, Expect.BAD, () -> x.node(17, 0, far, 0, 1, 0, 0));
            Expect.fails("node, c " + far, Expect.BAD, () -> x.node(17, 0, 0, far, 1, 0, 0));
            Expect.fails("node, out " + far, Expect.BAD, () -> x.node(17, 0, 0, 0, far, 0, 0));
            Expect.fails("node, p " + far, Expect.BAD, () -> x.node(17, 0, 0, 0, 1, far, 0));
            Expect.fails("node, q " + far, Expect.BAD, () -> x.node(17, 0, 0, 0, 1, 0, far));
            Expect.fails("run " + far, Expect.BAD, () -> x.run(far));
            Expect.fails("get, slot " + far, Expect.BAD, () -> x.get(far, 0, 0));
            Expect.fails("slot " + far, Expect.BAD, () -> x.slot(far, 0));
            Expect.fails("slot, what " + far, Expect.BAD, () -> x.slot(0, far));
            Expect.answers("count is never bad: " + far, -1, () -> x.count(far));
        }
        for (double v : new double[] {-1e300, 1e300, Double.NEGATIVE_INFINITY, Double.POSITIVE_INFINITY, Double.NaN}) {
            Expect.fails("set, " + v, Expect.BAD, () -> x.set(0, 0, 0, v));
        }
    }

    private static void notAsSaid() {
        GraphRunner x = full();
        for (int s : new int[] {0, 1, 4, 5}) {
            Expect.fails("table, slot " + s + " isn't free", Expect.BAD, () -> x.table(s, 0, 1, 1, false));
            Expect.fails("node, slot " + s + " isn't free", Expect.BAD, () -> x.node(5, 0, -1, -1, s, 0, 0));
        }
        for (int s : new int[] {4, 5, FREE}) {
            Expect.fails("set, slot " + s + " is neither input nor constant", Expect.BAD, () -> x.set(s, 0, 0, 0));
        }
        Expect.fails("run, a free slot", Expect.BAD, () -> x.run(FREE));
    }

    private static GraphRunner fourteen(boolean prepared) {
        GraphRunner x = new GraphRunner();
        x.table(19, 0, 1, 1, false);
        for (int n = 0; n < 14; n++) {
            x.node(5, 19, -1, -1, n, 0, 0);
        }
        if (prepared) {
            x.prepare();
        }
        return x;
    }

    private static void badComesFirst() {
        GraphRunner x = fourteen(false);
        int[][] bad = {
            {-1, 19, -1, -1, 15, 0, 0}, {19, 19, -1, -1, 15, 0, 0}, {5, -1, -1, -1, 15, 0, 0},
            {5, 20, -1, -1, 15, 0, 0}, {5, 19, 0, -1, 15, 0, 0}, {5, 19, -1, 0, 15, 0, 0},
            {0, 19, -1, -1, 15, 0, 0}, {5, 19, -1, -1, 0, 0, 0}, {5, 19, -1, -1, 19, 0, 0},
            {5, 19, -1, -1, 20, 0, 0}, {5, 19, -1, -1, -1, 0, 0}, {5, 19, -1, -1, 15, 9, 0},
            {5, 19, -1, -1, 15, 0, -9},
        };
        for (int[] b : bad) {
            Expect.fails("no room, but bad first " + java.util.Arrays.toString(b), Expect.BAD,
                    () -> x.node(b[0], b[1], b[2], b[3], b[4], b[5], b[6]));
        }
        Expect.fails("no room", Expect.STATE, () -> x.node(5, 19, -1, -1, 15, 0, 0));
        Expect.fails("not prepared, but a free slot first", Expect.BAD, () -> x.run(18));
        Expect.fails("not prepared, but no slot first", Expect.BAD, () -> x.run(20));
        Expect.fails("not prepared, but no slot first", Expect.BAD, () -> x.run(-1));
        Expect.fails("not prepared", Expect.STATE, () -> x.run(0));
        Expect.fails("out of the shape, but no slot first", Expect.BAD, () -> x.get(20, 9, 9));
        Expect.fails("free, but no such what first", Expect.BAD, () -> x.slot(18, 4));
        Expect.fails("not prepared, but no such what first", Expect.BAD, () -> x.slot(0, -1));
        Expect.fails("no such what and no slot", Expect.BAD, () -> x.slot(-1, 9));
    }

    private static void missing() {
        GraphRunner x = new GraphRunner();
        Expect.fails("undo", Expect.MISSING, x::undo);
        Expect.fails("get of a free slot", Expect.MISSING, () -> x.get(0, 0, 0));
        Expect.fails("slot of a free slot", Expect.MISSING, () -> x.slot(0, 1));
        x.node(5, 1, -1, -1, 0, 0, 0);
        Expect.fails("get of what isn't known", Expect.MISSING, () -> x.get(0, 0, 0));
        Expect.fails("slot when not prepared", Expect.MISSING, () -> x.slot(0, 1));
        Expect.fails("prepare", Expect.MISSING, x::prepare);
    }

    private static void unfit() {
        GraphRunner x = new GraphRunner();
        x.table(0, 1, 1, 1, false);
        x.node(5, 0, -1, -1, 1, 0, 0);
        Expect.fails("prepare", Expect.UNFIT, x::prepare);
    }

    private static void state() {
        GraphRunner x = fourteen(true);
        Expect.fails("no room though prepared", Expect.STATE, () -> x.node(5, 19, -1, -1, 15, 0, 0));
        x.table(18, 0, 1, 1, true);
        for (int s : new int[] {0, 13, 18, 19}) {
            Expect.fails("run for slot " + s + " when not prepared", Expect.STATE, () -> x.run(s));
        }
        x.prepare();
        Expect.answers("run when prepared", 1, () -> x.run(13));
    }

    private static void inTheOrderNamed() {
        for (int unfitFirst = 0; unfitFirst <= 1; unfitFirst++) {
            GraphRunner x = new GraphRunner();
            x.table(0, 1, 1, 1, false);
            x.node(5, unfitFirst == 1 ? 0 : 7, -1, -1, 1, 0, 0);
            x.node(5, unfitFirst == 1 ? 7 : 0, -1, -1, 2, 0, 0);
            Expect.fails("missing comes before unfit", Expect.MISSING, x::prepare);
            x.table(7, 0, 1, 1, false);
            Expect.fails("then unfit", Expect.UNFIT, x::prepare);
        }
        GraphRunner itself = new GraphRunner();
        itself.table(0, 1, 1, 1, false);
        itself.node(7, 0, -1, -1, 1, 5, 0);
        itself.node(5, 2, -1, -1, 2, 0, 0);
        Expect.fails("missing comes before a p that doesn't suit", Expect.MISSING, itself::prepare);
    }

    /** Some of everything: an input, constants, folded, known and other outcomes; slot 6 divides by 0. */
    private static GraphRunner full() {
        GraphRunner x = new GraphRunner();
        Tables.feed(x, 0, false, Tables.ints(Tables.r(6, -4)));
        Tables.feed(x, 1, true, Tables.ints(Tables.r(2)));
        Tables.feed(x, 2, true, Tables.ints(Tables.r(0)));
        x.node(6, 0, -1, -1, 3, 0, 0);
        x.node(0, 1, 1, -1, 4, 0, 0);
        x.node(2, 0, 4, -1, 5, 0, 0);
        x.node(3, 0, 2, -1, 6, 0, 0);
        x.prepare();
        x.run(5);
        return x;
    }

    private static GraphRunner fullButNotPrepared() {
        GraphRunner x = full();
        x.table(7, 0, 1, 1, false);
        x.node(5, 8, -1, -1, 10, 0, 0);
        return x;
    }

    private static GraphRunner fourteenAndOneKnown() {
        GraphRunner x = fourteen(true);
        x.run(3);
        return x;
    }

    /** All that can be asked of an object in some 230 calls, so that one is asked but once. */
    private static String seen(GraphRunner x) {
        StringBuilder seen = new StringBuilder();
        for (int what = -1; what <= 24; what++) {
            seen.append(" count(").append(what).append(") ").append(x.count(what));
        }
        for (int s = 0; s < 20; s++) {
            int kind = x.slot(s, 0);
            seen.append(" slot(").append(s).append(") ").append(kind);
            for (int what = 1; what <= 3 && kind != 0; what++) {
                seen.append(' ').append(typeOrSide(x, s, what));
            }
            for (int k = 0; k < 4 && kind != 0; k++) {
                seen.append(' ').append(cell(x, s, k / 2, k % 2));
            }
        }
        return seen.toString();
    }

    private static String typeOrSide(GraphRunner x, int s, int what) {
        try {
            return "" + x.slot(s, what);
        } catch (java.util.NoSuchElementException e) {
            return "missing";
        }
    }

    private static String cell(GraphRunner x, int s, int i, int j) {
        try {
            return "" + x.get(s, i, j);
        } catch (java.util.NoSuchElementException e) {
            return "missing";
        }
    }

    /** Two objects made alike, one of which refuses a call, answer all questions alike. */
    private static void leaves(String what, Make make, Class<?> due, Use use) {
        GraphRunner refusing = make.make();
        GraphRunner other = make.make();
        Expect.fails(what, due, () -> use.of(refusing));
        String got = seen(refusing);
        String wanted = seen(other);
        Expect.look(what + " leaves all as it was", got.equals(wanted), got, wanted);
    }

    private static void changesNothing() {
        for (int made = 0; made <= 1; made++) {
            Make make = made == 0 ? EdgesOfThrowingTest::full : EdgesOfThrowingTest::fullButNotPrepared;
            leaves("table, slot", make, Expect.BAD, x -> x.table(20, 0, 1, 1, true));
            leaves("table, taken", make, Expect.BAD, x -> x.table(0, 0, 1, 1, true));
            leaves("table, taken by an outcome", make, Expect.BAD, x -> x.table(5, 0, 1, 1, false));
            leaves("table, type", make, Expect.BAD, x -> x.table(FREE, 2, 1, 1, true));
            leaves("table, rows", make, Expect.BAD, x -> x.table(FREE, 1, 5, 1, true));
            leaves("table, columns", make, Expect.BAD, x -> x.table(FREE, 1, 1, 0, false));
            leaves("set, slot", make, Expect.BAD, x -> x.set(-1, 0, 0, 1));
            leaves("set, outcome", make, Expect.BAD, x -> x.set(5, 0, 0, 1));
            leaves("set, free", make, Expect.BAD, x -> x.set(FREE, 0, 0, 1));
            leaves("set, row of an input", make, Expect.BAD, x -> x.set(0, 1, 0, 1));
            leaves("set, column of an input", make, Expect.BAD, x -> x.set(0, 0, 2, 1));
            leaves("set, too large for an input", make, Expect.BAD, x -> x.set(0, 0, 0, 1001));
            leaves("set, not whole for an input", make, Expect.BAD, x -> x.set(0, 0, 0, 1.5));
            leaves("set, row of a constant", make, Expect.BAD, x -> x.set(1, -1, 0, 1));
            leaves("set, too small for a constant", make, Expect.BAD, x -> x.set(1, 0, 0, -1001));
            leaves("set, not whole for a constant", make, Expect.BAD, x -> x.set(1, 0, 0, 1.5));
            leaves("node, op", make, Expect.BAD, x -> x.node(19, 0, -1, -1, FREE, 0, 0));
            leaves("node, a", make, Expect.BAD, x -> x.node(17, 20, 0, 0, FREE, 0, 0));
            leaves("node, b", make, Expect.BAD, x -> x.node(17, 0, 20, 0, FREE, 0, 0));
            leaves("node, c", make, Expect.BAD, x -> x.node(17, 0, 0, 20, FREE, 0, 0));
            leaves("node, one too many", make, Expect.BAD, x -> x.node(5, 0, 0, -1, FREE, 0, 0));
            leaves("node, out", make, Expect.BAD, x -> x.node(5, 0, -1, -1, 20, 0, 0));
            leaves("node, out taken", make, Expect.BAD, x -> x.node(5, 0, -1, -1, 5, 0, 0));
            leaves("node, p", make, Expect.BAD, x -> x.node(5, 0, -1, -1, FREE, 9, 0));
            leaves("node, q", make, Expect.BAD, x -> x.node(5, 0, -1, -1, FREE, 0, 9));
            leaves("run, slot", make, Expect.BAD, x -> x.run(20));
            leaves("run, free", make, Expect.BAD, x -> x.run(FREE));
            leaves("get, slot", make, Expect.BAD, x -> x.get(20, 0, 0));
            leaves("get, free", make, Expect.MISSING, x -> x.get(FREE, 0, 0));
            leaves("get, shape", make, Expect.MISSING, x -> x.get(0, 1, 0));
            leaves("get, not known", make, Expect.MISSING, x -> x.get(6, 0, 0));
            leaves("slot, slot", make, Expect.BAD, x -> x.slot(20, 0));
            leaves("slot, what", make, Expect.BAD, x -> x.slot(0, 4));
            leaves("slot, free", make, Expect.MISSING, x -> x.slot(FREE, 1));
        }
        leaves("run, not prepared", EdgesOfThrowingTest::fullButNotPrepared, Expect.STATE, x -> x.run(5));
        leaves("run for an input, not prepared", EdgesOfThrowingTest::fullButNotPrepared, Expect.STATE, x -> x.run(0));
        leaves("slot, not prepared", EdgesOfThrowingTest::fullButNotPrepared, Expect.MISSING, x -> x.slot(5, 2));
        leaves("node, no room", EdgesOfThrowingTest::fourteenAndOneKnown, Expect.STATE,
                x -> x.node(5, 19, -1, -1, 15, 0, 0));
        leaves("undo, none", GraphRunner::new, Expect.MISSING, GraphRunner::undo);
        leaves("undo, none, not prepared", EdgesOfThrowingTest::noNode, Expect.MISSING, GraphRunner::undo);
    }

    private static GraphRunner noNode() {
        GraphRunner x = new GraphRunner();
        x.table(0, 0, 1, 1, true);
        return x;
    }

    private static void prepareThatThrows() {
        leaves("missing", EdgesOfThrowingTest::fullButNotPrepared, Expect.MISSING, GraphRunner::prepare);
        leaves("unfit", EdgesOfThrowingTest::unfitBehindFolded, Expect.UNFIT, GraphRunner::prepare);
        GraphRunner x = fullButNotPrepared();
        Expect.fails("missing", Expect.MISSING, x::prepare);
        x.undo();
        Expect.answers("what it left can be prepared", 1, x::prepare);
        Expect.answers("and run for", 1, () -> x.run(5));
        Expect.answers("6 by 4", 24, () -> x.get(5, 0, 0));
        GraphRunner unfit = unfitBehindFolded();
        Expect.fails("unfit", Expect.UNFIT, unfit::prepare);
        unfit.undo();
        Expect.answers("what it left can be prepared", 1, unfit::prepare);
        Expect.answers("and run for", 1, () -> unfit.run(5));
    }

    private static GraphRunner unfitBehindFolded() {
        GraphRunner x = full();
        x.node(5, 4, -1, -1, 10, 0, 0);
        return x;
    }

    private static void runThatThrows() {
        GraphRunner x = full();
        x.node(13, 3, 3, -1, 11, 1, 0);
        x.node(10, 11, -1, -1, 12, 1, 0);
        x.node(0, 12, 6, -1, 13, 0, 0);
        x.prepare();
        Expect.fails("divides by 0", Expect.ARITHMETIC, () -> x.run(13));
        Expect.answers("three are known", 3, () -> x.count(3));
        Expect.holds("the first", x, 3, 1, Expect.rows(Expect.of(6), Expect.of(-4)));
        Expect.holds("the second", x, 11, 1, Expect.rows(Expect.of(6, 6), Expect.of(-4, -4)));
        Expect.holds("the third", x, 12, 1, Expect.rows(Expect.of(12), Expect.of(-8)));
        Expect.fails("not the one that threw", Expect.MISSING, () -> x.get(6, 0, 0));
        Expect.fails("not the one that was asked for", Expect.MISSING, () -> x.get(13, 0, 0));
        Expect.answers("prepared", 1, () -> x.count(1));
        Expect.answers("folded", 1, () -> x.count(2));
        Expect.answers("nothing is worked out again", 0, () -> x.run(12));
    }
}
