import java.util.NoSuchElementException;

/** What the tests share: expectations of calls, and short ways to fill a GraphRunner. */
final class Expect {
    static final Class<?> BAD = IllegalArgumentException.class;
    static final Class<?> MISSING = NoSuchElementException.class;
    static final Class<?> UNFIT = UnsupportedOperationException.class;
    static final Class<?> STATE = IllegalStateException.class;
    static final Class<?> ARITHMETIC = ArithmeticException.class;
    static final Class<?> INDEX = IndexOutOfBoundsException.class;

    private static int looked = 0;
    private static int wrong = 0;
    private static String sentence = "";

    interface Call {
        double answer();
    }

    interface Act {
        void act();
    }

    private Expect() {
    }

    /** One sentence of the document, in its own words, with the test that is its own. */
    static void sentence(String words, Act test) {
        int before = looked;
        sentence = "\"" + words + "\" ";
        try {
            test.act();
        } catch (RuntimeException e) {
            look("ended early", false, e.toString(), "nothing thrown");
        }
        look("has a test", looked > before, "nothing looked at", "something");
        sentence = "";
    }

    static void answers(String what, double due, Call call) {
        try {
            double got = call.answer();
            // By bits, so that 0.0 and -0.0 are told apart.
            look(what, Double.doubleToLongBits(got) == Double.doubleToLongBits(due), "" + got, "" + due);
        } catch (RuntimeException e) {
            look(what, false, e.getClass().getName(), "" + due);
        }
    }

    static void fails(String what, Class<?> due, Act act) {
        try {
            act.act();
            look(what, false, "nothing thrown", due.getName());
        } catch (RuntimeException e) {
            look(what, e.getClass() == due, e.getClass().getName(), due.getName());
        }
    }

    static void works(String what, Act act) {
        try {
            act.act();
            look(what, true, "", "");
        } catch (RuntimeException e) {
            look(what, false, e.getClass().getName(), "nothing thrown");
        }
    }

    static void look(String what, boolean right, String got, String due) {
        looked++;
        if (!right) {
            wrong++;
            System.out.println(sentence + what + ": got " + got + ", due is " + due);
        }
    }

    static void end() {
        System.out.println(looked + " looked at, " + wrong + " wrong");
        System.exit(wrong == 0 && looked > 0 ? 0 : 1);
    }

    static void floats(GraphRunner x, int s, boolean constant, double[][] rows) {
        fill(x, s, 0, constant, rows);
    }

    static void ints(GraphRunner x, int s, boolean constant, double[][] rows) {
        fill(x, s, 1, constant, rows);
    }

    static void fillType(GraphRunner x, int s, int type, double[][] rows) {
        fill(x, s, type, false, rows);
    }

    private static void fill(GraphRunner x, int s, int type, boolean constant, double[][] rows) {
        x.table(s, type, rows.length, rows[0].length, constant);
        for (int i = 0; i < rows.length; i++) {
            for (int j = 0; j < rows[i].length; j++) {
                x.set(s, i, j, rows[i][j]);
            }
        }
    }

    static double[][] row(double... cells) {
        return new double[][] {cells};
    }

    static double[][] rows(double[]... rows) {
        return rows;
    }

    static double[] of(double... cells) {
        return cells;
    }

    /** Slot s has this type, just these rows, and nothing beyond them. */
    static void holds(String what, GraphRunner x, int s, int type, double[][] due) {
        answers(what + " type", type, () -> x.slot(s, 1));
        answers(what + " rows", due.length, () -> x.slot(s, 2));
        answers(what + " columns", due[0].length, () -> x.slot(s, 3));
        for (int i = 0; i < due.length; i++) {
            for (int j = 0; j < due[i].length; j++) {
                int row = i;
                int column = j;
                answers(what + " (" + i + ", " + j + ")", due[i][j], () -> x.get(s, row, column));
            }
        }
        fails(what + " row behind", MISSING, () -> x.get(s, due.length, 0));
        fails(what + " column behind", MISSING, () -> x.get(s, 0, due[0].length));
    }
}
