/** Promise 6: the order, what is missing, and folding; UnfitTest has the types and shapes. */
final class PrepareTest {
    public static void main(String[] args) {
        order();
        missing();
        missingComesBeforeUnfit();
        folds();
        passesOverWhatThrows();
        choiceFoldsWithAllThree();
        nothingHappensTwice();
        Expect.end();
    }

    private static void order() {
        GraphRunner x = new GraphRunner();
        x.node(5, 3, -1, -1, 2, 0, 0);
        x.node(5, 0, -1, -1, 4, 0, 0);
        x.node(0, 4, 0, -1, 3, 0, 0);
        x.node(5, 0, -1, -1, 5, 0, 0);
        x.table(0, 0, 1, 1, false);
        Expect.answers("no constant, none folded", 0, x::prepare);
        int[] due = {1, 2, 0, 3};
        for (int k = 0; k < due.length; k++) {
            int place = 10 + k;
            Expect.answers("place " + k, due[k], () -> x.count(place));
        }
        Expect.answers("behind the last", -1, () -> x.count(14));

        GraphRunner backwards = new GraphRunner();
        backwards.table(19, 0, 1, 1, true);
        for (int n = 0; n < 14; n++) {
            backwards.node(5, n == 13 ? 19 : n + 1, -1, -1, n, 0, 0);
        }
        Expect.answers("a chain of fourteen backwards", 14, backwards::prepare);
        for (int n = 0; n < 14; n++) {
            int place = n;
            Expect.answers("place " + n, 13 - n, () -> backwards.count(10 + place));
        }
    }

    private static void missing() {
        GraphRunner x = new GraphRunner();
        x.table(0, 0, 1, 1, false);
        x.node(0, 0, 1, -1, 2, 0, 0);
        Expect.fails("a free argument", Expect.MISSING, x::prepare);
        Expect.answers("not prepared", 0, () -> x.count(1));
        Expect.answers("no order", -1, () -> x.count(10));
        Expect.fails("again", Expect.MISSING, x::prepare);
        x.table(1, 0, 1, 1, false);
        Expect.answers("it is there now", 0, x::prepare);
        Expect.answers("prepared", 1, () -> x.count(1));

        GraphRunner round = new GraphRunner();
        round.table(0, 0, 1, 1, true);
        round.node(0, 0, 2, -1, 1, 0, 0);
        round.node(5, 1, -1, -1, 2, 0, 0);
        Expect.fails("round and round", Expect.MISSING, round::prepare);

        GraphRunner third = new GraphRunner();
        third.table(0, 0, 1, 1, true);
        third.node(17, 0, 0, 5, 1, 0, 0);
        Expect.fails("a free third argument", Expect.MISSING, third::prepare);
    }

    private static void missingComesBeforeUnfit() {
        GraphRunner x = new GraphRunner();
        x.table(0, 1, 1, 1, false);
        x.node(5, 0, -1, -1, 1, 0, 0);
        x.node(5, 7, -1, -1, 2, 0, 0);
        Expect.fails("missing first", Expect.MISSING, x::prepare);
        x.undo();
        Expect.fails("then unfit", Expect.UNFIT, x::prepare);
        Expect.answers("not prepared", 0, () -> x.count(1));
        Expect.fails("no type", Expect.MISSING, () -> x.slot(1, 1));
        x.undo();
        Expect.answers("nothing unfit", 0, x::prepare);
    }

    private static void folds() {
        GraphRunner x = new GraphRunner();
        Expect.floats(x, 0, true, Expect.row(2, 3));
        Expect.floats(x, 1, false, Expect.row(5, 7));
        x.node(0, 0, 0, -1, 2, 0, 0);
        x.node(0, 2, 1, -1, 3, 0, 0);
        x.node(2, 2, 0, -1, 4, 0, 0);
        Expect.answers("two folded", 2, x::prepare);
        Expect.holds("folded", x, 2, 0, Expect.row(4, 6));
        Expect.holds("folded from a folded one", x, 4, 0, Expect.row(8, 18));
        Expect.fails("an input is no constant", Expect.MISSING, () -> x.get(3, 0, 0));
        Expect.answers("folded ones are not known", 0, () -> x.count(3));
        Expect.answers("nor worked out by running", 0, () -> x.count(4));
        Expect.answers("a folded one is there", 0, () -> x.run(4));
        Expect.answers("a folded argument is there", 1, () -> x.run(3));
        x.set(1, 0, 0, 6);
        Expect.answers("folded ones stay", 2, () -> x.count(2));
    }

    private static void passesOverWhatThrows() {
        GraphRunner x = new GraphRunner();
        Expect.ints(x, 0, true, Expect.row(1, 0));
        Expect.ints(x, 1, true, Expect.row(5));
        x.node(3, 0, 0, -1, 2, 0, 0);
        x.node(0, 2, 0, -1, 3, 0, 0);
        x.node(15, 0, 1, -1, 4, 0, 0);
        x.node(6, 0, -1, -1, 5, 0, 0);
        Expect.answers("one folded", 1, x::prepare);
        Expect.answers("nothing thrown by running", 0, () -> x.count(5));
        Expect.holds("folded", x, 5, 1, Expect.rows(Expect.of(1), Expect.of(0)));
        Expect.fails("not folded", Expect.MISSING, () -> x.get(2, 0, 0));
        Expect.answers("its type is found", 1, () -> x.slot(2, 1));
        Expect.fails("running throws", Expect.ARITHMETIC, () -> x.run(3));
        Expect.fails("running throws", Expect.INDEX, () -> x.run(4));
    }

    private static void choiceFoldsWithAllThree() {
        GraphRunner x = new GraphRunner();
        Expect.ints(x, 0, true, Expect.row(1));
        Expect.ints(x, 1, true, Expect.row(0));
        x.table(2, 1, 1, 1, false);
        x.node(3, 0, 1, -1, 3, 0, 0);
        x.node(17, 0, 3, 0, 4, 0, 0);
        x.node(17, 0, 2, 0, 5, 0, 0);
        x.node(17, 0, 1, 0, 6, 0, 0);
        Expect.answers("just the one with three constants", 1, x::prepare);
        Expect.answers("folded", 1, () -> x.get(6, 0, 0));
        Expect.answers("run", 1, () -> x.run(4));
        Expect.answers("run", 1, () -> x.run(5));
    }

    private static void nothingHappensTwice() {
        GraphRunner x = new GraphRunner();
        x.table(0, 0, 1, 1, true);
        x.table(1, 0, 1, 1, false);
        x.node(5, 0, -1, -1, 2, 0, 0);
        x.node(5, 1, -1, -1, 3, 0, 0);
        x.prepare();
        x.run(3);
        Expect.answers("prepared already", 1, x::prepare);
        Expect.answers("known still", 1, () -> x.count(3));
        Expect.answers("there still", 0, () -> x.get(3, 0, 0));
    }
}
