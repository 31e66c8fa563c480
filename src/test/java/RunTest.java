/** Promise 7: what is run for, in which order, and what is known then; OpsTest has the ops. */
final class RunTest {
    public static void main(String[] args) {
        wrong();
        whatIsThereAlready();
        justWhatIsNeeded();
        choiceNeedsOneSide();
        throwingKeepsWhatIsKnown();
        argumentsFromTheFirstOn();
        choiceRunsForItsThirdFirst();
        fourteenInAChain();
        Expect.end();
    }

    private static void wrong() {
        GraphRunner x = new GraphRunner();
        x.table(0, 0, 1, 1, false);
        for (int s : new int[] {-1, 20, 5, Integer.MIN_VALUE, Integer.MAX_VALUE}) {
            Expect.fails("bad before not prepared: " + s, Expect.BAD, () -> x.run(s));
        }
        Expect.fails("not prepared", Expect.STATE, () -> x.run(0));
        x.prepare();
        Expect.fails("free", Expect.BAD, () -> x.run(5));
        Expect.answers("an input", 0, () -> x.run(0));
        Expect.answers("nothing worked out", 0, () -> x.count(4));
        Expect.answers("nothing thrown in a node", 0, () -> x.count(5));
    }

    private static void whatIsThereAlready() {
        GraphRunner x = new GraphRunner();
        x.table(0, 0, 1, 1, false);
        x.table(1, 0, 1, 1, true);
        x.node(5, 1, -1, -1, 2, 0, 0);
        x.node(5, 0, -1, -1, 3, 0, 0);
        x.prepare();
        Expect.answers("a constant", 0, () -> x.run(1));
        Expect.answers("a folded one", 0, () -> x.run(2));
        Expect.answers("another one", 1, () -> x.run(3));
        Expect.answers("known by now", 0, () -> x.run(3));
        Expect.answers("worked out once", 1, () -> x.count(4));
    }

    private static void justWhatIsNeeded() {
        GraphRunner x = new GraphRunner();
        Expect.floats(x, 0, false, Expect.row(3));
        x.node(0, 0, 0, -1, 1, 0, 0);
        x.node(2, 1, 1, -1, 2, 0, 0);
        x.node(5, 0, -1, -1, 3, 0, 0);
        x.node(0, 2, 1, -1, 4, 0, 0);
        x.prepare();
        Expect.answers("the first", 1, () -> x.run(1));
        Expect.answers("what is known isn't worked out again", 2, () -> x.run(4));
        Expect.answers("(3 + 3) squared and 6", 42, () -> x.get(4, 0, 0));
        Expect.fails("not needed", Expect.MISSING, () -> x.get(3, 0, 0));
        Expect.answers("known", 3, () -> x.count(3));
        x.set(0, 0, 0, 1);
        Expect.answers("all anew", 3, () -> x.run(4));
        Expect.answers("worked out in all", 6, () -> x.count(4));
    }

    private static void choiceNeedsOneSide() {
        GraphRunner x = new GraphRunner();
        Expect.floats(x, 0, false, Expect.row(4));
        Expect.floats(x, 1, false, Expect.row(0));
        Expect.ints(x, 2, false, Expect.row(0));
        x.node(3, 0, 1, -1, 3, 0, 0);
        x.node(0, 0, 0, -1, 4, 0, 0);
        x.node(6, 2, -1, -1, 5, 0, 0);
        x.node(17, 3, 4, 5, 6, 0, 0);
        x.prepare();
        Expect.answers("the third, b and itself", 3, () -> x.run(6));
        Expect.answers("b", 8, () -> x.get(6, 0, 0));
        Expect.fails("a isn't worked out", Expect.MISSING, () -> x.get(3, 0, 0));
        x.set(2, 0, 0, 2);
        Expect.fails("a throws", Expect.ARITHMETIC, () -> x.run(6));
        Expect.answers("the third is known", 2, () -> x.get(5, 0, 0));
        Expect.fails("b isn't", Expect.MISSING, () -> x.get(4, 0, 0));
        x.set(1, 0, 0, 2);
        Expect.answers("the third, a and itself", 3, () -> x.run(6));
        Expect.answers("a", 2, () -> x.get(6, 0, 0));
    }

    private static void throwingKeepsWhatIsKnown() {
        GraphRunner x = new GraphRunner();
        Expect.floats(x, 0, false, Expect.row(1));
        Expect.floats(x, 1, false, Expect.row(0));
        x.node(0, 0, 0, -1, 2, 0, 0);
        x.node(5, 0, -1, -1, 3, 0, 0);
        x.node(3, 3, 1, -1, 4, 0, 0);
        x.node(0, 4, 2, -1, 5, 0, 0);
        x.prepare();
        x.run(2);
        Expect.fails("thrown in slot 4", Expect.ARITHMETIC, () -> x.run(5));
        Expect.answers("known before", 2, () -> x.get(2, 0, 0));
        Expect.answers("known on the way", 1, () -> x.get(3, 0, 0));
        Expect.fails("not the one that threw", Expect.MISSING, () -> x.get(4, 0, 0));
        Expect.fails("nor what needed it", Expect.MISSING, () -> x.get(5, 0, 0));
        Expect.answers("known", 2, () -> x.count(3));
        Expect.answers("worked out", 2, () -> x.count(4));
        Expect.answers("thrown in one", 1, () -> x.count(5));
        Expect.answers("prepared still", 1, () -> x.count(1));
        Expect.fails("again", Expect.ARITHMETIC, () -> x.run(5));
        Expect.answers("nothing more worked out", 2, () -> x.count(4));
        Expect.answers("thrown in all", 2, () -> x.count(5));
    }

    private static void argumentsFromTheFirstOn() {
        for (int first = 0; first <= 1; first++) {
            GraphRunner x = new GraphRunner();
            Expect.floats(x, 0, false, Expect.row(1));
            Expect.floats(x, 1, false, Expect.row(0));
            x.node(3, 0, 1, -1, 2, 0, 0);
            x.node(5, 0, -1, -1, 3, 0, 0);
            x.node(0, first == 0 ? 2 : 3, first == 0 ? 3 : 2, -1, 4, 0, 0);
            x.prepare();
            Expect.fails("one throws", Expect.ARITHMETIC, () -> x.run(4));
            Expect.answers("known if it comes first", first, () -> x.count(3));
        }
        GraphRunner where = new GraphRunner();
        Expect.ints(where, 0, false, Expect.row(1));
        Expect.ints(where, 1, false, Expect.row(0));
        where.node(3, 0, 1, -1, 2, 0, 0);
        where.node(6, 0, -1, -1, 3, 0, 0);
        where.node(6, 1, -1, -1, 4, 0, 0);
        where.node(15, 0, 0, -1, 5, 0, 0);
        where.node(9, 3, 2, 5, 6, 0, 0);
        where.node(9, 3, 4, 5, 7, 0, 0);
        where.prepare();
        Expect.fails("the second one of three", Expect.ARITHMETIC, () -> where.run(6));
        Expect.answers("the first is known", 1, () -> where.count(3));
        Expect.fails("where needs all three", Expect.INDEX, () -> where.run(7));
        Expect.answers("two are known", 2, () -> where.count(3));
    }

    private static void choiceRunsForItsThirdFirst() {
        GraphRunner x = new GraphRunner();
        Expect.ints(x, 0, false, Expect.row(1));
        Expect.ints(x, 1, false, Expect.row(0));
        x.node(15, 0, 0, -1, 2, 0, 0);
        x.node(3, 0, 1, -1, 3, 0, 0);
        x.node(17, 2, 2, 3, 4, 0, 0);
        x.prepare();
        Expect.fails("the third throws first", Expect.ARITHMETIC, () -> x.run(4));
        Expect.answers("thrown in one", 1, () -> x.count(5));
    }

    private static void fourteenInAChain() {
        GraphRunner x = new GraphRunner();
        Expect.floats(x, 0, false, Expect.row(1));
        for (int n = 0; n < 14; n++) {
            x.node(0, n, n, -1, n + 1, 0, 0);
        }
        x.prepare();
        Expect.answers("all", 14, () -> x.run(14));
        Expect.answers("doubled fourteen times", 16384, () -> x.get(14, 0, 0));
    }
}
