/** The boundary cases of PREPARING, sentence by sentence. */
final class EdgesOfPreparingTest {
    public static void main(String[] args) {
        Expect.sentence("again and again the least one not ORDERED", EdgesOfPreparingTest::leastFirst);
        Expect.sentence("whose ARGUMENTS are all INPUTS, CONSTANTS or OUTCOMES of ORDERED ones",
                EdgesOfPreparingTest::allArguments);
        Expect.sentence("if some are left over: Missing", EdgesOfPreparingTest::leftOver);
        Expect.sentence("Then, in this order, TYPES and SHAPES are found", EdgesOfPreparingTest::foundInOrder);
        Expect.sentence("what isn't as said: Unfit", EdgesOfPreparingTest::unfit);
        Expect.sentence("(a p or q that doesn't suit, too)", EdgesOfPreparingTest::unfitNumbers);
        Expect.sentence("each NODE all of whose ARGUMENTS are CONSTANTS or OUTCOMES of FOLDED ones is worked out",
                EdgesOfPreparingTest::allConstant);
        Expect.sentence("if nothing is thrown by that, it's FOLDED, with this OUTCOME",
                EdgesOfPreparingTest::thrownIsNotFolded);
        Expect.end();
    }

    private static void order(String what, GraphRunner x, int... due) {
        for (int place = 0; place < 14; place++) {
            int asked = 10 + place;
            int number = place < due.length ? due[place] : -1;
            Expect.answers(what + ", place " + place, number, () -> x.count(asked));
        }
    }

    private static void leastFirst() {
        GraphRunner none = new GraphRunner();
        none.table(0, 0, 1, 1, false);
        Expect.answers("no node at all", 0, none::prepare);
        order("no node at all", none);

        GraphRunner forwards = new GraphRunner();
        forwards.table(19, 0, 1, 1, false);
        GraphRunner backwards = new GraphRunner();
        backwards.table(19, 0, 1, 1, false);
        int[] up = new int[14];
        int[] down = new int[14];
        for (int n = 0; n < 14; n++) {
            forwards.node(5, n == 0 ? 19 : n - 1, -1, -1, n, 0, 0);
            backwards.node(5, n == 13 ? 19 : n + 1, -1, -1, n, 0, 0);
            up[n] = n;
            down[n] = 13 - n;
        }
        forwards.prepare();
        order("fourteen forwards", forwards, up);
        backwards.prepare();
        order("fourteen backwards", backwards, down);

        GraphRunner back = new GraphRunner();
        back.table(19, 0, 1, 1, false);
        back.node(5, 3, -1, -1, 0, 0, 0);
        back.node(5, 19, -1, -1, 1, 0, 0);
        back.node(5, 4, -1, -1, 2, 0, 0);
        back.node(5, 1, -1, -1, 3, 0, 0);
        back.node(5, 0, -1, -1, 4, 0, 0);
        back.node(5, 19, -1, -1, 5, 0, 0);
        back.prepare();
        order("back to the least after each", back, 1, 3, 0, 4, 2, 5);
    }

    private static void allArguments() {
        for (int late = 0; late < 3; late++) {
            GraphRunner x = new GraphRunner();
            x.table(0, 1, 1, 1, false);
            x.table(1, 1, 1, 1, true);
            int[] arguments = {0, 1, 0};
            arguments[late] = 2;
            x.node(9, arguments[0], arguments[1], arguments[2], 3, 0, 0);
            x.node(6, 0, -1, -1, 2, 0, 0);
            Expect.works("argument " + late + " comes late", x::prepare);
            order("argument " + late + " comes late", x, 1, 0);
        }
        GraphRunner ready = new GraphRunner();
        ready.table(0, 1, 1, 1, false);
        ready.table(1, 1, 1, 1, true);
        ready.node(9, 0, 1, 0, 3, 0, 0);
        ready.node(6, 0, -1, -1, 2, 0, 0);
        ready.prepare();
        order("inputs and constants are there", ready, 0, 1);
    }

    private static void left(String what, GraphRunner x) {
        Expect.fails(what, Expect.MISSING, x::prepare);
        Expect.answers(what + ": not prepared", 0, () -> x.count(1));
        order(what, x);
        Expect.fails(what + " once more", Expect.MISSING, x::prepare);
    }

    private static void leftOver() {
        for (int free = 0; free < 3; free++) {
            GraphRunner x = new GraphRunner();
            x.table(0, 1, 1, 1, true);
            x.node(17, free == 0 ? 9 : 0, free == 1 ? 9 : 0, free == 2 ? 9 : 0, 1, 0, 0);
            left("argument " + free + " is free", x);
            x.table(9, 1, 1, 1, true);
            Expect.answers("argument " + free + " is there", 1, x::prepare);
        }
        GraphRunner itself = new GraphRunner();
        itself.node(5, 0, -1, -1, 0, 0, 0);
        left("its own argument", itself);

        GraphRunner round = new GraphRunner();
        round.table(0, 0, 1, 1, true);
        round.node(5, 2, -1, -1, 1, 0, 0);
        round.node(5, 1, -1, -1, 2, 0, 0);
        left("two that need each other", round);

        GraphRunner last = new GraphRunner();
        last.table(19, 0, 1, 1, true);
        for (int n = 0; n < 13; n++) {
            last.node(5, 19, -1, -1, n, 0, 0);
        }
        last.node(5, 18, -1, -1, 13, 0, 0);
        left("just the fourteenth", last);
        last.undo();
        Expect.answers("without the fourteenth", 13, last::prepare);

        GraphRunner first = new GraphRunner();
        first.table(19, 0, 1, 1, true);
        first.node(5, 18, -1, -1, 0, 0, 0);
        for (int n = 1; n < 14; n++) {
            first.node(5, 19, -1, -1, n, 0, 0);
        }
        left("just the first of fourteen", first);
    }

    private static void foundInOrder() {
        GraphRunner x = new GraphRunner();
        x.table(0, 0, 2, 3, false);
        x.node(13, 3, 2, -1, 1, 1, 0);
        x.node(7, 4, -1, -1, 2, 1, 0);
        x.node(12, 4, -1, -1, 3, 0, 0);
        x.node(10, 5, -1, -1, 4, 1, 0);
        x.node(6, 0, -1, -1, 5, 0, 0);
        Expect.answers("backwards", 0, x::prepare);
        int[][] due = {{1, 3, 2}, {1, 3, 1}, {1, 3, 1}, {0, 3, 1}, {0, 3, 2}};
        for (int s = 1; s <= 5; s++) {
            for (int what = 1; what <= 3; what++) {
                int asked = s;
                int number = what;
                Expect.answers("slot(" + s + ", " + what + ")", due[s - 1][what - 1], () -> x.slot(asked, number));
            }
        }
        GraphRunner anew = new GraphRunner();
        anew.table(0, 0, 2, 3, false);
        anew.node(6, 0, -1, -1, 1, 0, 0);
        anew.prepare();
        anew.undo();
        anew.node(12, 0, -1, -1, 1, 0, 0);
        anew.prepare();
        Expect.answers("a slot used again has its new type", 1, () -> anew.slot(1, 1));
        Expect.answers("and its new rows", 2, () -> anew.slot(1, 2));
        Expect.answers("and its new columns", 1, () -> anew.slot(1, 3));
    }

    private static void unfit() {
        GraphRunner x = new GraphRunner();
        x.table(0, 0, 2, 3, true);
        x.table(1, 1, 1, 1, false);
        x.node(5, 0, -1, -1, 2, 0, 0);
        x.node(6, 2, -1, -1, 3, 0, 0);
        x.node(4, 3, 3, -1, 4, 0, 0);
        Expect.fails("a shape that came of nodes", Expect.UNFIT, x::prepare);
        Expect.answers("not prepared", 0, () -> x.count(1));
        Expect.answers("nothing folded", 0, () -> x.count(2));
        Expect.fails("nothing to get", Expect.MISSING, () -> x.get(2, 0, 0));
        Expect.fails("no type", Expect.MISSING, () -> x.slot(2, 1));
        order("unfit", x);
        Expect.fails("once more", Expect.UNFIT, x::prepare);
        x.undo();
        Expect.answers("without it", 2, x::prepare);
        x.node(7, 3, -1, -1, 4, 1, 0);
        x.node(5, 4, -1, -1, 5, 0, 0);
        Expect.fails("a type that came of nodes", Expect.UNFIT, x::prepare);

        GraphRunner unneeded = new GraphRunner();
        unneeded.table(0, 0, 1, 1, true);
        unneeded.table(1, 1, 1, 1, true);
        for (int n = 0; n < 13; n++) {
            unneeded.node(5, 0, -1, -1, 2 + n, 0, 0);
        }
        unneeded.node(5, 1, -1, -1, 15, 0, 0);
        Expect.fails("just the fourteenth", Expect.UNFIT, unneeded::prepare);
        Expect.answers("none folded", 0, () -> unneeded.count(2));

        GraphRunner divides = new GraphRunner();
        divides.table(0, 1, 1, 1, true);
        divides.node(3, 0, 0, -1, 1, 0, 0);
        divides.node(5, 1, -1, -1, 2, 0, 0);
        Expect.fails("unfit though working out would throw", Expect.UNFIT, divides::prepare);
    }

    private static void unfitNumbers() {
        int[] ops = {7, 7, 10, 10, 11, 11, 13, 13, 14, 14, 14, 16, 16, 16, 16};
        int[] p = {-1, 2, -1, 2, -1, 2, -1, 2, -1, 0, 1, 0, 3, 1, 1};
        int[] q = {0, 0, 0, 0, 0, 0, 0, 0, 0, 1, 0, 0, 0, -1, 3};
        for (int k = 0; k < ops.length; k++) {
            int last = k;
            GraphRunner x = new GraphRunner();
            x.table(0, 0, 1, 1, false);
            int b = ops[k] == 13 || ops[k] == 16 ? 0 : -1;
            Expect.answers("node() takes p " + p[k] + " q " + q[k], 0,
                    () -> x.node(ops[last], 0, b, -1, 1, p[last], q[last]));
            Expect.fails("op " + ops[k] + " p " + p[k] + " q " + q[k], Expect.UNFIT, x::prepare);
            Expect.answers("not prepared", 0, () -> x.count(1));
        }
        for (int op : new int[] {0, 5, 6, 8, 12}) {
            GraphRunner x = new GraphRunner();
            x.table(0, 0, 1, 1, false);
            x.node(op, 0, op == 0 || op == 8 ? 0 : -1, -1, 1, -8, 8);
            Expect.answers("op " + op + " has no use for p and q", 0, x::prepare);
        }
    }

    private static void allConstant() {
        for (int inputs = 0; inputs < 8; inputs++) {
            for (int op : new int[] {9, 17}) {
                GraphRunner x = new GraphRunner();
                for (int s = 0; s < 3; s++) {
                    Tables.feed(x, s, (inputs >> s & 1) == 0, Tables.ints(Tables.r(s + 1)));
                }
                x.node(op, 0, 1, 2, 3, 0, 0);
                x.node(6, 3, -1, -1, 4, 0, 0);
                int due = inputs == 0 ? 2 : 0;
                Expect.answers("op " + op + ", inputs " + inputs, due, x::prepare);
                Expect.answers("op " + op + ", inputs " + inputs + " worked out", 2 - due, () -> x.run(4));
                Expect.answers("op " + op + ", inputs " + inputs + " outcome", 1, () -> x.get(4, 0, 0));
            }
        }
        GraphRunner late = new GraphRunner();
        Tables.feed(late, 0, true, Tables.floats(Tables.r(2)));
        late.node(0, 3, 0, -1, 4, 0, 0);
        late.node(2, 0, 2, -1, 3, 0, 0);
        late.node(0, 0, 0, -1, 2, 0, 0);
        Expect.answers("backwards", 3, late::prepare);
        Expect.answers("backwards", 10, () -> late.get(4, 0, 0));
        Expect.answers("folding is no running", 0, () -> late.count(4));
        Expect.answers("folded ones are not known", 0, () -> late.count(3));
    }

    private static void thrownIsNotFolded() {
        GraphRunner x = new GraphRunner();
        Tables.feed(x, 0, true, Tables.ints(Tables.r(0)));
        Tables.feed(x, 1, true, Tables.ints(Tables.r(7)));
        Tables.feed(x, 2, true, Tables.floats(Tables.r(1000)));
        x.node(3, 1, 0, -1, 3, 0, 0);
        x.node(15, 1, 1, -1, 4, 0, 0);
        x.node(2, 2, 2, -1, 5, 0, 0);
        x.node(2, 5, 5, -1, 6, 0, 0);
        x.node(6, 3, -1, -1, 7, 0, 0);
        x.node(13, 1, 4, -1, 8, 0, 0);
        x.node(5, 6, -1, -1, 9, 0, 0);
        x.node(17, 1, 3, 1, 10, 0, 0);
        x.node(6, 1, -1, -1, 11, 0, 0);
        Expect.answers("two of nine", 2, x::prepare);
        Expect.answers("prepared", 1, () -> x.count(1));
        Expect.answers("before the one that throws", 1e6, () -> x.get(5, 0, 0));
        Expect.answers("behind all that throw", 7, () -> x.get(11, 0, 0));
        for (int s : new int[] {3, 4, 6, 7, 8, 9, 10}) {
            Expect.fails("slot " + s, Expect.MISSING, () -> x.get(s, 0, 0));
            Expect.works("its type is found", () -> x.slot(s, 1));
        }
        Expect.answers("nothing was thrown by running", 0, () -> x.count(5));
        Expect.fails("divide", Expect.ARITHMETIC, () -> x.run(7));
        Expect.fails("pick", Expect.INDEX, () -> x.run(8));
        Expect.fails("too large", Expect.ARITHMETIC, () -> x.run(9));
        Expect.answers("a choice that doesn't need it", 1, () -> x.run(10));
        Expect.answers("thrown by running", 3, () -> x.count(5));
        x.set(0, 0, 0, 7);
        Expect.answers("with another constant", 5, x::prepare);
        Expect.answers("with another constant", 1, () -> x.get(7, 0, 0));
    }
}
