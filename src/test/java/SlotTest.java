/** Promise 9. */
final class SlotTest {
    public static void main(String[] args) {
        GraphRunner x = new GraphRunner();
        x.table(0, 0, 2, 3, false);
        x.table(1, 1, 4, 1, true);
        x.node(6, 0, -1, -1, 2, 0, 0);
        asks(x, 0, 1, 0, 2, 3);
        asks(x, 1, 2, 1, 4, 1);
        Expect.answers("outcome", 3, () -> x.slot(2, 0));
        Expect.answers("free", 0, () -> x.slot(3, 0));
        for (int what = 1; what <= 3; what++) {
            int number = what;
            Expect.fails("not prepared " + what, Expect.MISSING, () -> x.slot(2, number));
            Expect.fails("free " + what, Expect.MISSING, () -> x.slot(3, number));
        }
        x.prepare();
        asks(x, 2, 3, 0, 3, 2);
        for (int what = 1; what <= 3; what++) {
            int number = what;
            Expect.fails("free though prepared " + what, Expect.MISSING, () -> x.slot(3, number));
        }
        for (int s : new int[] {-1, 20, Integer.MIN_VALUE, Integer.MAX_VALUE}) {
            Expect.fails("bad slot " + s, Expect.BAD, () -> x.slot(s, 0));
        }
        for (int what : new int[] {-1, 4, Integer.MIN_VALUE, Integer.MAX_VALUE}) {
            Expect.fails("bad what " + what, Expect.BAD, () -> x.slot(0, what));
            Expect.fails("bad comes before missing " + what, Expect.BAD, () -> x.slot(3, what));
        }
        x.table(4, 0, 1, 1, false);
        Expect.fails("not prepared any more", Expect.MISSING, () -> x.slot(2, 1));
        asks(x, 0, 1, 0, 2, 3);
        Expect.end();
    }

    private static void asks(GraphRunner x, int s, int... due) {
        for (int what = 0; what < due.length; what++) {
            int number = what;
            Expect.answers("slot(" + s + ", " + what + ")", due[what], () -> x.slot(s, number));
        }
    }
}
