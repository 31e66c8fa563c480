import static java.util.Arrays.asList;

import java.util.ArrayList;
import java.util.List;

/** "What it is": the document's first line, part by part, on one graph. */
final class WhatItIsTest {
    private static final int ADD = 0;
    private static final int PRODUCT = 4;
    private static final int TURN = 6;
    private static final int CHOICE = 17;

    public static void main(String[] args) {
        Expect.sentence("graphs of operators on small tables of numbers", WhatItIsTest::whole);
        Expect.sentence("inputs and constants are fed", WhatItIsTest::fed);
        Expect.sentence("nodes are checked for their types and shapes", WhatItIsTest::checked);
        Expect.sentence("and put in order", WhatItIsTest::inOrder);
        Expect.sentence("what is constant is worked out beforehand", WhatItIsTest::beforehand);
        Expect.sentence("just what an answer needs is worked out", WhatItIsTest::justWhatIsNeeded);
        Expect.sentence("a choice needing one side alone", WhatItIsTest::oneSideAlone);
        Expect.end();
    }

    /**
     * Slots 0 (2 x 2) and 1 (the chooser) are inputs, 2 (1 x 2) and 3 (2 x 1) constants. The nodes are told
     * last one first: slot 7 chooses from 5 = 0 + 2 and 6 = 0 * 4, and 4 = 3 * 2 is constant.
     */
    private static GraphRunner graph() {
        GraphRunner x = new GraphRunner();
        Tables.feed(x, 0, false, Tables.floats(Tables.r(1, 2), Tables.r(3, 4)));
        Tables.feed(x, 1, false, Tables.ints(Tables.r(1)));
        Tables.feed(x, 2, true, Tables.floats(Tables.r(10, 20)));
        Tables.feed(x, 3, true, Tables.floats(Tables.r(1), Tables.r(-1)));
        x.node(CHOICE, 5, 6, 1, 7, 0, 0);
        x.node(PRODUCT, 0, 4, -1, 6, 0, 0);
        x.node(ADD, 0, 2, -1, 5, 0, 0);
        x.node(PRODUCT, 3, 2, -1, 4, 0, 0);
        return x;
    }

    private static void whole() {
        GraphRunner x = graph();
        Expect.answers("folded", 1, x::prepare);
        Expect.answers("for a", 2, () -> x.run(7));
        Expect.holds("a", x, 7, 0, Expect.rows(Expect.of(11, 22), Expect.of(13, 24)));
        x.set(1, 0, 0, 0);
        Expect.answers("for b", 2, () -> x.run(7));
        Expect.holds("b", x, 7, 0, Expect.rows(Expect.of(-10, -20), Expect.of(-10, -20)));
    }

    private static void fed() {
        GraphRunner x = graph();
        Expect.holds("an input", x, 0, 0, Expect.rows(Expect.of(1, 2), Expect.of(3, 4)));
        Expect.holds("an input of ints", x, 1, 1, Expect.row(1));
        Expect.holds("a constant", x, 2, 0, Expect.row(10, 20));
        x.prepare();
        x.set(0, 1, 1, -4);
        Expect.answers("an input fed anew needs no preparing", 1, () -> x.count(1));
        Expect.answers("and is run with", 2, () -> x.run(7));
        Expect.answers("and is run with", 16, () -> x.get(7, 1, 1));
        x.set(2, 0, 1, 30);
        Expect.answers("a constant fed anew needs preparing", 0, () -> x.count(1));
        Expect.answers("and is folded", 1, x::prepare);
        Expect.answers("and is folded", -30, () -> x.get(4, 1, 1));
        Expect.answers("and is run with", 2, () -> x.run(7));
        Expect.answers("and is run with", 26, () -> x.get(7, 1, 1));
    }

    private static void checked() {
        GraphRunner x = graph();
        x.node(ADD, 0, 1, -1, 8, 0, 0);
        Expect.fails("a type that isn't the same", Expect.UNFIT, x::prepare);
        x.undo();
        x.node(PRODUCT, 0, 2, -1, 8, 0, 0);
        Expect.fails("a shape that doesn't suit", Expect.UNFIT, x::prepare);
        x.undo();
        x.node(TURN, 4, -1, -1, 8, 0, 0);
        Expect.answers("all suit", 2, x::prepare);
        for (int s = 4; s <= 8; s++) {
            int found = s;
            Expect.answers("type of " + s, 0, () -> x.slot(found, 1));
            Expect.answers("rows of " + s, 2, () -> x.slot(found, 2));
            Expect.answers("columns of " + s, 2, () -> x.slot(found, 3));
        }
    }

    private static void inOrder() {
        GraphRunner x = graph();
        x.prepare();
        List<Integer> order = new ArrayList<>();
        for (int what = 10; what < 14; what++) {
            order.add(x.count(what));
        }
        Expect.look("the order", order.equals(asList(2, 3, 1, 0)), "" + order, "2, 3, 1, 0");
    }

    private static void beforehand() {
        GraphRunner x = graph();
        Expect.fails("not yet", Expect.MISSING, () -> x.get(4, 0, 0));
        Expect.answers("one is constant", 1, x::prepare);
        Expect.holds("without a run", x, 4, 0, Expect.rows(Expect.of(10, 20), Expect.of(-10, -20)));
        Expect.answers("not by running", 0, () -> x.count(4));
        Expect.fails("what an input is in isn't constant", Expect.MISSING, () -> x.get(5, 0, 0));
    }

    private static void justWhatIsNeeded() {
        GraphRunner x = graph();
        x.prepare();
        Expect.answers("one node", 1, () -> x.run(5));
        Expect.fails("not the others", Expect.MISSING, () -> x.get(6, 0, 0));
        Expect.answers("what is known isn't needed again", 1, () -> x.run(7));
        Expect.answers("in all", 2, () -> x.count(4));
    }

    private static void oneSideAlone() {
        for (int chooser = -1; chooser <= 1; chooser++) {
            GraphRunner x = graph();
            x.set(1, 0, 0, chooser);
            x.prepare();
            Expect.answers("a choice by " + chooser, 2, () -> x.run(7));
            int chosen = chooser == 0 ? 6 : 5;
            int other = chooser == 0 ? 5 : 6;
            Expect.works("the side that is chosen", () -> x.get(chosen, 0, 0));
            Expect.fails("not the other side", Expect.MISSING, () -> x.get(other, 0, 0));
        }
    }
}
