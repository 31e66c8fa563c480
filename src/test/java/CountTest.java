/** Promise 10. */
final class CountTest {
    public static void main(String[] args) {
        GraphRunner x = new GraphRunner();
        Expect.ints(x, 0, true, Expect.row(1));
        Expect.ints(x, 1, false, Expect.row(0));
        x.node(6, 3, -1, -1, 2, 0, 0);
        x.node(3, 0, 1, -1, 3, 0, 0);
        x.node(6, 0, -1, -1, 4, 0, 0);
        counts("before", x, 3, 0, 0, 0, 0, 0);
        order("before", x);
        x.prepare();
        counts("prepared", x, 3, 1, 1, 0, 0, 0);
        order("prepared", x, 1, 0, 2);
        Expect.fails("by 0", Expect.ARITHMETIC, () -> x.run(2));
        counts("thrown", x, 3, 1, 1, 0, 0, 1);
        x.set(1, 0, 0, 1);
        x.run(2);
        counts("run", x, 3, 1, 1, 2, 2, 1);
        x.set(1, 0, 0, 1);
        counts("set", x, 3, 1, 1, 0, 2, 1);
        x.run(3);
        counts("run again", x, 3, 1, 1, 1, 3, 1);
        x.set(0, 0, 0, 2);
        counts("a constant set", x, 3, 0, 0, 0, 3, 1);
        order("a constant set", x);
        x.node(5, 19, -1, -1, 5, 0, 0);
        Expect.fails("missing", Expect.MISSING, x::prepare);
        counts("missing", x, 4, 0, 0, 0, 3, 1);
        order("missing", x);
        x.undo();
        x.prepare();
        counts("prepared anew", x, 3, 1, 1, 0, 3, 1);
        order("prepared anew", x, 1, 0, 2);
        Expect.end();
    }

    private static void counts(String when, GraphRunner x, int... due) {
        for (int what = 0; what < due.length; what++) {
            int number = what;
            Expect.answers(when + ": count(" + what + ")", due[what], () -> x.count(number));
        }
        for (int what : new int[] {-1, 6, 9, 24, Integer.MIN_VALUE, Integer.MAX_VALUE}) {
            Expect.answers(when + ": count(" + what + ")", -1, () -> x.count(what));
        }
    }

    private static void order(String when, GraphRunner x, int... due) {
        for (int place = 0; place < 14; place++) {
            int what = 10 + place;
            int number = place < due.length ? due[place] : -1;
            Expect.answers(when + ": count(" + what + ")", number, () -> x.count(what));
        }
    }
}
