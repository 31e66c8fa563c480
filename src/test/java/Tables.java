/** Tables written down, and one op put to work on them: its arguments in slots 0, 1, 2, its outcome in slot 9. */
final class Tables {
    static final int FLOAT = 0;
    static final int INT = 1;

    record Table(int type, double[][] rows) {
    }

    private Tables() {
    }

    static double[] r(double... cells) {
        return cells;
    }

    static Table floats(double[]... rows) {
        return new Table(FLOAT, rows);
    }

    static Table ints(double[]... rows) {
        return new Table(INT, rows);
    }

    static Table zeros(int type, int rows, int columns) {
        return new Table(type, new double[rows][columns]);
    }

    static Table filled(int type, int rows, int columns, double v) {
        Table table = zeros(type, rows, columns);
        for (double[] row : table.rows) {
            java.util.Arrays.fill(row, v);
        }
        return table;
    }

    static void feed(GraphRunner x, int s, boolean constant, Table table) {
        x.table(s, table.type, table.rows.length, table.rows[0].length, constant);
        for (int i = 0; i < table.rows.length; i++) {
            for (int j = 0; j < table.rows[i].length; j++) {
                x.set(s, i, j, table.rows[i][j]);
            }
        }
    }

    static GraphRunner graph(boolean constant, int op, int p, int q, Table... arguments) {
        GraphRunner x = new GraphRunner();
        for (int s = 0; s < arguments.length; s++) {
            feed(x, s, constant, arguments[s]);
        }
        x.node(op, 0, arguments.length > 1 ? 1 : -1, arguments.length > 2 ? 2 : -1, 9, p, q);
        return x;
    }

    private static String told(int op, int p, int q, Table... arguments) {
        StringBuilder what = new StringBuilder("op " + op + " p " + p + " q " + q + " of");
        for (Table table : arguments) {
            what.append(table.type == INT ? " ints " : " floats ").append(java.util.Arrays.deepToString(table.rows));
        }
        return what.toString();
    }

    /** Run for from inputs, and folded from constants. */
    static void gives(int op, int p, int q, Table due, Table... arguments) {
        String what = told(op, p, q, arguments);
        GraphRunner run = graph(false, op, p, q, arguments);
        Expect.answers(what + " not folded", 0, run::prepare);
        Expect.answers(what + " run", 1, () -> run.run(9));
        Expect.holds(what, run, 9, due.type, due.rows);
        GraphRunner folded = graph(true, op, p, q, arguments);
        Expect.answers(what + " folded", 1, folded::prepare);
        Expect.holds(what + " folded", folded, 9, due.type, due.rows);
    }

    /** Thrown by running alone: prepare() passes over it. */
    static void thrown(int op, int p, int q, Class<?> due, Table... arguments) {
        String what = told(op, p, q, arguments);
        for (int constant = 0; constant <= 1; constant++) {
            GraphRunner x = graph(constant == 1, op, p, q, arguments);
            Expect.answers(what + " not folded", 0, x::prepare);
            Expect.fails(what, due, () -> x.run(9));
            Expect.fails(what + " gives nothing", Expect.MISSING, () -> x.get(9, 0, 0));
            Expect.answers(what + " thrown in it", 1, () -> x.count(5));
            Expect.answers(what + " not known", 0, () -> x.count(3));
        }
    }

    static void unfit(int op, int p, int q, Table... arguments) {
        String what = told(op, p, q, arguments);
        GraphRunner x = graph(false, op, p, q, arguments);
        Expect.fails(what, Expect.UNFIT, x::prepare);
        Expect.answers(what + " not prepared", 0, () -> x.count(1));
        Expect.fails(what + " no type", Expect.MISSING, () -> x.slot(9, 1));
    }

    static void fits(int op, int p, int q, int type, int rows, int columns, Table... arguments) {
        String what = told(op, p, q, arguments);
        GraphRunner x = graph(false, op, p, q, arguments);
        Expect.answers(what + " fits", 0, x::prepare);
        Expect.answers(what + " type", type, () -> x.slot(9, 1));
        Expect.answers(what + " rows", rows, () -> x.slot(9, 2));
        Expect.answers(what + " columns", columns, () -> x.slot(9, 3));
    }
}
