/** Promise 5. */
final class UndoTest {
    public static void main(String[] args) {
        GraphRunner x = new GraphRunner();
        Expect.floats(x, 0, false, Expect.row(2));
        Expect.floats(x, 1, true, Expect.row(3));
        x.prepare();
        Expect.fails("none", Expect.MISSING, x::undo);
        Expect.answers("prepared still", 1, () -> x.count(1));

        x.node(5, 1, -1, -1, 9, 0, 0);
        x.node(5, 0, -1, -1, 2, 0, 0);
        x.node(5, 0, -1, -1, 7, 0, 0);
        x.prepare();
        x.run(2);
        Expect.works("undo", x::undo);
        Expect.answers("two left", 2, () -> x.count(0));
        Expect.answers("its slot is free", 0, () -> x.slot(7, 0));
        Expect.answers("the others are not", 3, () -> x.slot(2, 0));
        Expect.answers("not prepared", 0, () -> x.count(1));
        Expect.answers("nothing folded", 0, () -> x.count(2));
        Expect.answers("nothing known", 0, () -> x.count(3));
        Expect.answers("its number is given again", 2, () -> x.node(6, 2, -1, -1, 3, 0, 0));
        Expect.answers("prepare", 1, x::prepare);
        Expect.answers("run", 2, () -> x.run(3));
        Expect.answers("what was worked out in all stays", 3, () -> x.count(4));

        x.undo();
        x.undo();
        x.undo();
        Expect.fails("none is left", Expect.MISSING, x::undo);
        Expect.answers("no node", 0, () -> x.count(0));
        Expect.answers("slot 9 is free", 0, () -> x.slot(9, 0));
        Expect.answers("the input stays", 2, () -> x.get(0, 0, 0));

        GraphRunner needed = new GraphRunner();
        needed.node(5, 3, -1, -1, 4, 0, 0);
        needed.table(0, 0, 1, 1, true);
        needed.node(5, 0, -1, -1, 3, 0, 0);
        Expect.answers("its outcome is an argument", 2, needed::prepare);
        needed.undo();
        Expect.fails("the argument is free now", Expect.MISSING, needed::prepare);
        Expect.end();
    }
}
