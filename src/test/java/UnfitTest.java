/** Promise 6: which types, shapes, p and q an op takes, and what its outcome has. */
final class UnfitTest {
    private static final int F = 0;
    private static final int I = 1;

    public static void main(String[] args) {
        pairs();
        others();
        slide();
        Expect.end();
    }

    /** Tables are {type, rows, columns}; due is that of the outcome, or null if the node is unfit. */
    private static void ask(int op, int p, int q, int[] due, int[]... tables) {
        GraphRunner x = new GraphRunner();
        StringBuilder what = new StringBuilder("op " + op + ", p " + p + ", q " + q);
        for (int s = 0; s < tables.length; s++) {
            x.table(s, tables[s][0], tables[s][1], tables[s][2], false);
            what.append(' ').append(java.util.Arrays.toString(tables[s]));
        }
        x.node(op, 0, tables.length > 1 ? 1 : -1, tables.length > 2 ? 2 : -1, 9, p, q);
        if (due == null) {
            Expect.fails(what.toString(), Expect.UNFIT, x::prepare);
            Expect.answers(what + " is not prepared", 0, () -> x.count(1));
            return;
        }
        Expect.works(what.toString(), x::prepare);
        for (int k = 0; k < 3; k++) {
            int number = k + 1;
            Expect.answers(what + ", slot(9, " + number + ")", due[k], () -> x.slot(9, number));
        }
    }

    private static int[] t(int type, int rows, int columns) {
        return new int[] {type, rows, columns};
    }

    private static void pairs() {
        for (int op : new int[] {0, 1, 2, 3, 8}) {
            for (int type = F; type <= I; type++) {
                int due = op == 8 ? I : type;
                ask(op, -8, 8, t(due, 2, 3), t(type, 2, 3), t(type, 2, 3));
                ask(op, 0, 0, t(due, 4, 3), t(type, 1, 3), t(type, 4, 1));
                ask(op, 0, 0, t(due, 4, 4), t(type, 4, 4), t(type, 1, 1));
                ask(op, 0, 0, null, t(type, 2, 3), t(type, 3, 3));
                ask(op, 0, 0, null, t(type, 3, 2), t(type, 3, 4));
                ask(op, 0, 0, null, t(type, 1, 1), t(1 - type, 1, 1));
            }
        }
        ask(4, 5, 5, t(F, 2, 4), t(F, 2, 3), t(F, 3, 4));
        ask(4, 0, 0, null, t(F, 2, 3), t(F, 2, 3));
        ask(4, 0, 0, null, t(F, 2, 1), t(F, 3, 2));
        ask(4, 0, 0, null, t(I, 2, 2), t(I, 2, 2));
        ask(4, 0, 0, null, t(F, 2, 2), t(I, 2, 2));
        ask(4, 0, 0, null, t(I, 2, 2), t(F, 2, 2));
    }

    private static void others() {
        for (int op : new int[] {5, 18}) {
            ask(op, 3, -3, t(F, 3, 2), t(F, 3, 2));
            ask(op, 0, 0, null, t(I, 3, 2));
        }
        for (int type = F; type <= I; type++) {
            ask(6, 2, 2, t(type, 4, 1), t(type, 1, 4));
            ask(7, 0, 8, t(F, 2, 3), t(type, 2, 3));
            ask(7, 1, -8, t(I, 2, 3), t(type, 2, 3));
            ask(7, 2, 0, null, t(type, 2, 3));
            ask(7, -1, 0, null, t(type, 2, 3));
            for (int op : new int[] {10, 11}) {
                ask(op, 0, 8, t(type, 1, 3), t(type, 2, 3));
                ask(op, 1, -8, t(type, 2, 1), t(type, 2, 3));
                ask(op, 2, 0, null, t(type, 2, 3));
                ask(op, -1, 0, null, t(type, 2, 3));
            }
            ask(12, 8, 8, t(I, 2, 1), t(type, 2, 3));
            joins(type);
            cuts(type);
            choices(type);
            ask(15, 8, 8, t(type, 4, 3), t(type, 2, 3), t(I, 1, 4));
            ask(15, 0, 0, t(type, 1, 3), t(type, 2, 3), t(I, 1, 1));
            ask(15, 0, 0, null, t(type, 2, 3), t(I, 2, 1));
            ask(15, 0, 0, null, t(type, 2, 3), t(F, 1, 2));
        }
    }

    private static void joins(int type) {
        ask(13, 0, 8, t(type, 4, 2), t(type, 3, 2), t(type, 1, 2));
        ask(13, 1, 8, t(type, 3, 4), t(type, 3, 2), t(type, 3, 2));
        ask(13, 0, 0, null, t(type, 3, 2), t(type, 2, 2));
        ask(13, 1, 0, null, t(type, 2, 3), t(type, 2, 2));
        ask(13, 0, 0, null, t(type, 1, 1), t(type, 1, 2));
        ask(13, 1, 0, null, t(type, 1, 1), t(type, 2, 1));
        ask(13, 2, 0, null, t(type, 1, 1), t(type, 1, 1));
        ask(13, -1, 0, null, t(type, 1, 1), t(type, 1, 1));
        ask(13, 0, 0, null, t(type, 1, 1), t(1 - type, 1, 1));
        ask(13, 1, 0, null, t(type, 1, 1), t(1 - type, 1, 1));
    }

    private static void cuts(int type) {
        ask(14, 0, 3, t(type, 4, 2), t(type, 4, 2));
        ask(14, 3, 3, t(type, 1, 2), t(type, 4, 2));
        ask(14, 1, 2, t(type, 2, 2), t(type, 4, 2));
        ask(14, 0, 2, null, t(type, 2, 2));
        ask(14, -1, 1, null, t(type, 2, 2));
        ask(14, 1, 0, null, t(type, 2, 2));
        ask(14, 0, -1, null, t(type, 2, 2));
        ask(14, 2, 2, null, t(type, 2, 2));
    }

    private static void choices(int type) {
        ask(9, 8, 8, t(type, 2, 3), t(type, 2, 3), t(type, 2, 3), t(I, 2, 3));
        ask(9, 0, 0, t(type, 4, 3), t(type, 1, 3), t(type, 1, 1), t(I, 4, 1));
        ask(9, 0, 0, t(type, 3, 3), t(type, 3, 1), t(type, 1, 3), t(I, 1, 1));
        ask(9, 0, 0, null, t(type, 2, 3), t(type, 2, 3), t(F, 2, 3));
        ask(9, 0, 0, null, t(type, 2, 3), t(1 - type, 2, 3), t(I, 2, 3));
        ask(9, 0, 0, null, t(type, 2, 3), t(type, 3, 3), t(I, 1, 1));
        ask(9, 0, 0, null, t(type, 2, 1), t(type, 1, 3), t(I, 1, 2));
        ask(9, 0, 0, null, t(type, 2, 1), t(type, 1, 3), t(I, 3, 3));
        ask(17, 8, 8, t(type, 2, 3), t(type, 2, 3), t(type, 2, 3), t(I, 1, 1));
        ask(17, 0, 0, null, t(type, 2, 3), t(type, 2, 3), t(F, 1, 1));
        ask(17, 0, 0, null, t(type, 2, 3), t(1 - type, 2, 3), t(I, 1, 1));
        ask(17, 0, 0, null, t(type, 2, 3), t(type, 1, 3), t(I, 1, 1));
        ask(17, 0, 0, null, t(type, 2, 3), t(type, 2, 1), t(I, 1, 1));
        ask(17, 0, 0, null, t(type, 2, 3), t(type, 2, 3), t(I, 2, 1));
        ask(17, 0, 0, null, t(type, 2, 3), t(type, 2, 3), t(I, 1, 2));
    }

    private static void slide() {
        ask(16, 1, 0, t(F, 3, 1), t(F, 3, 4), t(F, 1, 4));
        ask(16, 1, 0, t(F, 3, 4), t(F, 3, 4), t(F, 1, 1));
        ask(16, 2, 0, t(F, 3, 2), t(F, 3, 4), t(F, 1, 1));
        ask(16, 2, 2, t(F, 1, 4), t(F, 1, 4), t(F, 1, 1));
        ask(16, 2, 2, t(F, 1, 3), t(F, 1, 1), t(F, 1, 1));
        ask(16, 1, 2, t(F, 1, 2), t(F, 1, 1), t(F, 1, 4));
        ask(16, 1, 1, null, t(F, 1, 4), t(F, 1, 1));
        ask(16, 1, 2, null, t(F, 1, 4), t(F, 1, 4));
        ask(16, 1, 0, null, t(F, 1, 1), t(F, 1, 2));
        ask(16, 2, 0, null, t(F, 1, 1), t(F, 1, 2));
        ask(16, 2, 0, null, t(F, 1, 2), t(F, 1, 4));
        ask(16, 0, 0, null, t(F, 1, 2), t(F, 1, 2));
        ask(16, 3, 0, null, t(F, 1, 2), t(F, 1, 2));
        ask(16, -1, 0, null, t(F, 1, 2), t(F, 1, 2));
        ask(16, 1, -1, null, t(F, 1, 4), t(F, 1, 2));
        ask(16, 2, 3, null, t(F, 1, 1), t(F, 1, 4));
        ask(16, 1, 0, null, t(F, 2, 2), t(F, 2, 2));
        ask(16, 1, 0, null, t(I, 1, 2), t(I, 1, 2));
        ask(16, 1, 0, null, t(F, 1, 2), t(I, 1, 2));
        ask(16, 1, 0, null, t(I, 1, 2), t(F, 1, 2));
    }
}
