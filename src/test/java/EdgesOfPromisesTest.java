/** The boundary cases of the ten promises, sentence by sentence; what they share with "Terms" is tested there. */
final class EdgesOfPromisesTest {
    private static final int[] ARGUMENTS = {2, 2, 2, 2, 2, 1, 1, 1, 2, 3, 1, 1, 1, 2, 1, 2, 2, 3, 1};

    public static void main(String[] args) {
        Expect.sentence("All SLOTS free; PREPARED.", EdgesOfPromisesTest::newObject);
        tableAndSet();
        nodeAndUndo();
        prepareAndRun();
        asking();
        Expect.end();
    }

    private static void tableAndSet() {
        Expect.sentence("SLOT s, a free one, becomes an INPUT (constant false) or a CONSTANT",
                EdgesOfPromisesTest::tableOfAFreeSlot);
        Expect.sentence("all 0", EdgesOfPromisesTest::tableAllZero);
        Expect.sentence("becomes an INPUT (constant false) or a CONSTANT, all 0. It's not PREPARED then.",
                EdgesOfPromisesTest::tableUnprepares);
        Expect.sentence("Row i, column j of SLOT s", EdgesOfPromisesTest::setInTheShape);
        Expect.sentence("of SLOT s, an INPUT or CONSTANT", EdgesOfPromisesTest::setInputOrConstant);
        Expect.sentence("becomes v, -1000.0 .. 1000.0", EdgesOfPromisesTest::setInRange);
        Expect.sentence("in an INT table a whole number", EdgesOfPromisesTest::setWholeNumbers);
        Expect.sentence("For CONSTANTS it's not PREPARED then.", EdgesOfPromisesTest::setConstantUnprepares);
    }

    private static void nodeAndUndo() {
        Expect.sentence("A new NODE; out is a free SLOT", EdgesOfPromisesTest::nodeOfAFreeSlot);
        Expect.sentence("as many as the OP has, from the first on, are SLOTS (0 .. 19, free ones too), those behind "
                + "them -1 (OPS 0 .. 4, 8, 13, 15 and 16 have two, 9 and 17 three, the others one).",
                EdgesOfPromisesTest::nodeArguments);
        Expect.sentence("14 are there: no room.", EdgesOfPromisesTest::nodeNoRoom);
        Expect.sentence("It's not PREPARED then. Answers its number.", EdgesOfPromisesTest::nodeUnprepares);
        Expect.sentence("The latest NODE goes, its OUTCOME's SLOT is free. It's not PREPARED then.",
                EdgesOfPromisesTest::undoLatest);
        Expect.sentence("None: missing.", EdgesOfPromisesTest::undoNone);
    }

    private static void prepareAndRun() {
        Expect.sentence("if it is already, nothing happens", EdgesOfPromisesTest::prepareAlready);
        Expect.sentence("When something is thrown it isn't PREPARED.", EdgesOfPromisesTest::prepareThrows);
        Expect.sentence("Answers how many NODES are FOLDED.", EdgesOfPromisesTest::prepareAnswers);
        Expect.sentence("RUNS for SLOT s (free: bad)", EdgesOfPromisesTest::runFree);
        Expect.sentence("Answers how many NODES were worked out to the end.", EdgesOfPromisesTest::runAnswers);
    }

    private static void asking() {
        Expect.sentence("of an INPUT or CONSTANT, or what is KNOWN or FOLDED; else, or out of its SHAPE: missing",
                EdgesOfPromisesTest::getMissing);
        Expect.sentence("0 free, 1 INPUT, 2 CONSTANT, 3 OUTCOME (what 0)", EdgesOfPromisesTest::slotKinds);
        Expect.sentence("its TYPE (1), R (2), C (3), of OUTCOMES when PREPARED, else missing (of free ones too)",
                EdgesOfPromisesTest::slotMissing);
        Expect.sentence("NODES (0), 1 if PREPARED, else 0 (1), FOLDED ones (2), KNOWN ones (3)",
                EdgesOfPromisesTest::countsOfNow);
        Expect.sentence("NODES worked out to the end by RUNNING (4), and those in which something was thrown then (5), "
                + "in all", EdgesOfPromisesTest::countsInAll);
        Expect.sentence("the NODE that is number what - 10 in the ORDER (10 .. 23), when PREPARED; else -1",
                EdgesOfPromisesTest::countOrder);
    }

    private static GraphRunner one(boolean constant) {
        GraphRunner x = new GraphRunner();
        Tables.feed(x, 0, constant, Tables.floats(Tables.r(2)));
        return x;
    }

    private static void newObject() {
        GraphRunner x = new GraphRunner();
        for (int s = 0; s < 20; s++) {
            int asked = s;
            Expect.answers("slot " + s, 0, () -> x.slot(asked, 0));
            Expect.fails("slot " + s + " has no type", Expect.MISSING, () -> x.slot(asked, 1));
            Expect.fails("slot " + s + " holds nothing", Expect.MISSING, () -> x.get(asked, 0, 0));
            Expect.fails("slot " + s + " can't be set", Expect.BAD, () -> x.set(asked, 0, 0, 0));
            Expect.fails("slot " + s + " can't be run for", Expect.BAD, () -> x.run(asked));
        }
        for (int what = -1; what <= 24; what++) {
            int asked = what;
            int due = what == 1 ? 1 : what >= 0 && what <= 5 ? 0 : -1;
            Expect.answers("count(" + what + ")", due, () -> x.count(asked));
        }
        Expect.answers("prepare", 0, x::prepare);
        Expect.fails("undo", Expect.MISSING, x::undo);
    }

    private static void tableOfAFreeSlot() {
        for (int constant = 0; constant <= 1; constant++) {
            boolean isConstant = constant == 1;
            GraphRunner x = one(isConstant);
            x.node(5, 0, -1, -1, 1, 0, 0);
            Expect.answers("kind", constant + 1, () -> x.slot(0, 0));
            Expect.fails("a table is there", Expect.BAD, () -> x.table(0, 0, 1, 1, isConstant));
            Expect.fails("a table of the other kind", Expect.BAD, () -> x.table(0, 0, 1, 1, !isConstant));
            Expect.fails("an outcome is there", Expect.BAD, () -> x.table(1, 0, 1, 1, isConstant));
            Expect.answers("as it was", 2, () -> x.get(0, 0, 0));
            Expect.answers("an outcome still", 3, () -> x.slot(1, 0));
            x.undo();
            Expect.works("free again", () -> x.table(1, 0, 1, 1, isConstant));
            Expect.answers("kind", constant + 1, () -> x.slot(1, 0));
        }
        GraphRunner all = new GraphRunner();
        for (int s = 0; s < 20; s++) {
            int taken = s;
            Expect.works("all twenty, slot " + s, () -> all.table(taken, taken % 2, 4, 4, taken % 3 == 0));
        }
        for (int s = 0; s < 20; s++) {
            int taken = s;
            Expect.fails("none is free, slot " + s, Expect.BAD, () -> all.table(taken, 0, 1, 1, false));
        }
        Expect.fails("nor for an outcome", Expect.BAD, () -> all.node(5, 0, -1, -1, 0, 0, 0));
    }

    private static void tableAllZero() {
        for (int type = 0; type <= 1; type++) {
            GraphRunner x = new GraphRunner();
            Tables.feed(x, 0, true, Tables.filled(type, 4, 4, 7));
            x.node(6, 0, -1, -1, 1, 0, 0);
            x.prepare();
            Expect.answers("an outcome was there", 7, () -> x.get(1, 3, 3));
            x.undo();
            x.table(1, type, 4, 4, false);
            Expect.holds("zeros in its place", x, 1, type, new double[4][4]);
        }
    }

    private static void tableUnprepares() {
        for (int constant = 0; constant <= 1; constant++) {
            boolean isConstant = constant == 1;
            GraphRunner x = new GraphRunner();
            x.table(0, 0, 1, 1, isConstant);
            Expect.answers("the first table", 0, () -> x.count(1));
            Expect.fails("the first table, run", Expect.STATE, () -> x.run(0));
            x.prepare();
            Expect.answers("prepared", 1, () -> x.count(1));
            Expect.fails("a refused one", Expect.BAD, () -> x.table(0, 0, 1, 1, isConstant));
            Expect.answers("prepared still", 1, () -> x.count(1));
            x.table(19, 1, 4, 4, isConstant);
            Expect.answers("another table", 0, () -> x.count(1));
        }
    }

    private static void setInTheShape() {
        for (int rows = 1; rows <= 4; rows++) {
            for (int columns = 1; columns <= 4; columns++) {
                GraphRunner x = new GraphRunner();
                x.table(0, 0, rows, columns, (rows + columns) % 2 == 0);
                double[][] due = new double[rows][columns];
                for (int i = -1; i <= 4; i++) {
                    for (int j = -1; j <= 4; j++) {
                        int row = i;
                        int column = j;
                        double v = 10 * i + j + 0.5;
                        String what = rows + " x " + columns + ", (" + i + ", " + j + ")";
                        if (i >= 0 && i < rows && j >= 0 && j < columns) {
                            due[i][j] = v;
                            Expect.works(what, () -> x.set(0, row, column, v));
                        } else {
                            Expect.fails(what, Expect.BAD, () -> x.set(0, row, column, v));
                        }
                    }
                }
                Expect.holds(rows + " x " + columns, x, 0, 0, due);
            }
        }
    }

    private static void setInputOrConstant() {
        GraphRunner x = one(false);
        x.table(1, 0, 1, 1, true);
        x.node(5, 0, -1, -1, 2, 0, 0);
        x.node(5, 1, -1, -1, 3, 0, 0);
        x.prepare();
        x.run(2);
        Expect.fails("a known outcome", Expect.BAD, () -> x.set(2, 0, 0, 1));
        Expect.fails("a folded outcome", Expect.BAD, () -> x.set(3, 0, 0, 1));
        Expect.fails("a free slot", Expect.BAD, () -> x.set(4, 0, 0, 1));
        Expect.works("an input", () -> x.set(0, 0, 0, 1));
        Expect.works("a constant", () -> x.set(1, 0, 0, 1));
    }

    private static void setInRange() {
        for (int s = 0; s <= 3; s++) {
            int asked = s;
            GraphRunner x = new GraphRunner();
            x.table(s, s % 2, 1, 1, s / 2 == 1);
            for (double v : new double[] {-1000.0, 1000.0, 0.0, -999, 999}) {
                Expect.works("slot " + s + ", " + v, () -> x.set(asked, 0, 0, v));
                Expect.answers("slot " + s + ", " + v, v, () -> x.get(asked, 0, 0));
            }
            double[] outside = {
                Math.nextUp(1000.0), Math.nextDown(-1000.0), 1001, -1001, 1e9, -1e9, Integer.MAX_VALUE,
                Integer.MIN_VALUE, 4294967296.0, Double.MAX_VALUE, -Double.MAX_VALUE, Double.POSITIVE_INFINITY,
                Double.NEGATIVE_INFINITY, Double.NaN,
            };
            for (double v : outside) {
                Expect.fails("slot " + s + ", " + v, Expect.BAD, () -> x.set(asked, 0, 0, v));
            }
            Expect.answers("slot " + s + " as it was", 999, () -> x.get(asked, 0, 0));
        }
    }

    private static void setWholeNumbers() {
        double[] broken = {
            0.5, -0.5, Double.MIN_VALUE, -Double.MIN_VALUE, Math.nextUp(1.0), Math.nextDown(1.0),
            Math.nextDown(1000.0), Math.nextUp(-1000.0), 999.5, 1e-9,
        };
        for (int constant = 0; constant <= 1; constant++) {
            GraphRunner x = new GraphRunner();
            x.table(0, 1, 1, 1, constant == 1);
            x.table(1, 0, 1, 1, constant == 1);
            x.set(0, 0, 0, 7);
            for (double v : broken) {
                Expect.fails("int " + v, Expect.BAD, () -> x.set(0, 0, 0, v));
                Expect.works("float " + v, () -> x.set(1, 0, 0, v));
                Expect.answers("float " + v, v, () -> x.get(1, 0, 0));
            }
            Expect.answers("as it was", 7, () -> x.get(0, 0, 0));
            for (double v : new double[] {-1000, -1, 0, 1, 1000}) {
                Expect.works("int " + v, () -> x.set(0, 0, 0, v));
                Expect.answers("int " + v, v, () -> x.get(0, 0, 0));
            }
        }
    }

    private static void setConstantUnprepares() {
        GraphRunner x = one(false);
        x.table(1, 0, 1, 1, true);
        x.prepare();
        x.set(0, 0, 0, 5);
        Expect.answers("an input", 1, () -> x.count(1));
        Expect.fails("a refused constant", Expect.BAD, () -> x.set(1, 0, 0, 1001));
        Expect.answers("a refused constant", 1, () -> x.count(1));
        x.set(1, 0, 0, 0);
        Expect.answers("a constant, though set to what it was", 0, () -> x.count(1));
        x.set(0, 0, 0, 6);
        Expect.answers("an input doesn't prepare", 0, () -> x.count(1));
    }

    private static void nodeOfAFreeSlot() {
        GraphRunner x = one(false);
        x.table(1, 0, 1, 1, true);
        x.node(5, 0, -1, -1, 2, 0, 0);
        for (int s = 0; s <= 2; s++) {
            int taken = s;
            Expect.fails("slot " + s, Expect.BAD, () -> x.node(5, 0, -1, -1, taken, 0, 0));
        }
        Expect.answers("a free one", 1, () -> x.node(5, 0, -1, -1, 19, 0, 0));
        Expect.fails("not free any more", Expect.BAD, () -> x.node(5, 0, -1, -1, 19, 0, 0));
        x.undo();
        Expect.answers("free again", 1, () -> x.node(5, 0, -1, -1, 19, 0, 0));
    }

    private static void nodeArguments() {
        for (int op = -1; op <= 19; op++) {
            int asked = op;
            int has = op < 0 || op > 18 ? -1 : ARGUMENTS[op];
            for (int given = 0; given < 8; given++) {
                int a = (given & 1) == 0 ? -1 : 19;
                int b = (given & 2) == 0 ? -1 : 0;
                int c = (given & 4) == 0 ? -1 : 7;
                GraphRunner x = new GraphRunner();
                String what = "op " + op + " of " + a + ", " + b + ", " + c;
                if (has >= 0 && given == (1 << has) - 1) {
                    Expect.answers(what, 0, () -> x.node(asked, a, b, c, 5, 0, 0));
                } else {
                    Expect.fails(what, Expect.BAD, () -> x.node(asked, a, b, c, 5, 0, 0));
                }
            }
            for (int k = 0; k < has; k++) {
                int[] no = {0, has > 1 ? 0 : -1, has > 2 ? 0 : -1};
                for (int wrong : new int[] {-2, -1, 20}) {
                    no[k] = wrong;
                    GraphRunner x = new GraphRunner();
                    Expect.fails("op " + op + ", argument " + k + " is " + wrong, Expect.BAD,
                            () -> x.node(asked, no[0], no[1], no[2], 5, 0, 0));
                }
            }
            for (int k = Math.max(has, 0); k < 3 && has > 0; k++) {
                int[] behind = {0, has > 1 ? 0 : -1, -1};
                for (int wrong : new int[] {-2, 0, 19, 20}) {
                    behind[k] = wrong;
                    GraphRunner x = new GraphRunner();
                    Expect.fails("op " + op + ", behind them " + wrong, Expect.BAD,
                            () -> x.node(asked, behind[0], behind[1], behind[2], 5, 0, 0));
                }
            }
        }
    }

    private static void nodeNoRoom() {
        GraphRunner x = one(false);
        for (int n = 0; n < 14; n++) {
            int number = n;
            Expect.answers("node " + n, n, () -> x.node(5, 0, -1, -1, number + 1, 0, 0));
        }
        Expect.fails("the fifteenth", Expect.STATE, () -> x.node(5, 0, -1, -1, 15, 0, 0));
        Expect.answers("its slot is free still", 0, () -> x.slot(15, 0));
        Expect.works("its slot can have a table", () -> x.table(15, 0, 1, 1, false));
        x.undo();
        Expect.answers("room for one", 13, () -> x.node(5, 0, -1, -1, 16, 0, 0));
        Expect.fails("no more", Expect.STATE, () -> x.node(5, 0, -1, -1, 17, 0, 0));
    }

    private static void nodeUnprepares() {
        GraphRunner x = new GraphRunner();
        Expect.answers("the first", 0, () -> x.node(5, 0, -1, -1, 1, 0, 0));
        Expect.answers("not prepared", 0, () -> x.count(1));
        x.table(0, 0, 1, 1, false);
        x.prepare();
        Expect.answers("the second", 1, () -> x.node(5, 0, -1, -1, 2, 0, 0));
        Expect.answers("not prepared", 0, () -> x.count(1));
        x.prepare();
        Expect.fails("refused", Expect.BAD, () -> x.node(5, 0, -1, -1, 2, 0, 0));
        Expect.answers("prepared still", 1, () -> x.count(1));
    }

    private static void undoLatest() {
        GraphRunner x = one(false);
        for (int n = 0; n < 14; n++) {
            x.node(5, 0, -1, -1, 19 - n, 0, 0);
        }
        for (int n = 13; n >= 0; n--) {
            int left = n;
            x.prepare();
            Expect.answers("prepared, " + n, 1, () -> x.count(1));
            x.undo();
            Expect.answers("not prepared, " + n, 0, () -> x.count(1));
            Expect.answers("left " + n, n, () -> x.count(0));
            Expect.answers("slot " + (19 - n) + " is free", 0, () -> x.slot(19 - left, 0));
            if (n > 0) {
                Expect.answers("slot " + (20 - n) + " is an outcome", 3, () -> x.slot(20 - left, 0));
            }
        }
        Expect.answers("the input stays", 1, () -> x.slot(0, 0));
        Expect.answers("counted from 0 again", 0, () -> x.node(5, 0, -1, -1, 1, 0, 0));
    }

    private static void undoNone() {
        GraphRunner x = new GraphRunner();
        Expect.fails("a new object", Expect.MISSING, x::undo);
        Expect.answers("prepared still", 1, () -> x.count(1));
        x.table(0, 0, 1, 1, false);
        Expect.fails("a table is no node", Expect.MISSING, x::undo);
        Expect.answers("the table stays", 1, () -> x.slot(0, 0));
        x.node(5, 0, -1, -1, 1, 0, 0);
        Expect.works("one", x::undo);
        Expect.fails("none is left", Expect.MISSING, x::undo);
        Expect.fails("nor any later", Expect.MISSING, x::undo);
        x.prepare();
        Expect.fails("none", Expect.MISSING, x::undo);
        Expect.answers("prepared still", 1, () -> x.count(1));
    }

    private static void prepareAlready() {
        GraphRunner x = one(false);
        x.table(1, 0, 1, 1, true);
        x.node(5, 0, -1, -1, 2, 0, 0);
        x.node(5, 1, -1, -1, 3, 0, 0);
        Expect.answers("one folded", 1, x::prepare);
        x.run(2);
        for (int k = 0; k < 3; k++) {
            Expect.answers("one folded still", 1, x::prepare);
            Expect.answers("known still", 1, () -> x.count(3));
            Expect.answers("there still", 2, () -> x.get(2, 0, 0));
            Expect.answers("prepared still", 1, () -> x.count(1));
        }
        Expect.answers("worked out once", 1, () -> x.count(4));
    }

    private static void prepareThrows() {
        for (int unfit = 0; unfit <= 1; unfit++) {
            Class<?> due = unfit == 1 ? Expect.UNFIT : Expect.MISSING;
            GraphRunner x = one(true);
            x.node(5, 0, -1, -1, 1, 0, 0);
            x.prepare();
            x.node(7, unfit == 1 ? 0 : 9, -1, -1, 2, 5, 0);
            for (int k = 0; k < 2; k++) {
                Expect.fails("prepare", due, x::prepare);
                Expect.answers("not prepared", 0, () -> x.count(1));
                Expect.answers("nothing folded", 0, () -> x.count(2));
                Expect.fails("run", Expect.STATE, () -> x.run(1));
                Expect.fails("get", Expect.MISSING, () -> x.get(1, 0, 0));
                Expect.fails("slot", Expect.MISSING, () -> x.slot(1, 1));
                Expect.answers("no order", -1, () -> x.count(10));
            }
        }
    }

    private static void prepareAnswers() {
        for (int folded = 0; folded <= 14; folded++) {
            GraphRunner x = one(true);
            x.table(19, 0, 1, 1, false);
            for (int n = 0; n < 14; n++) {
                x.node(5, n < folded ? 0 : 19, -1, -1, n + 1, 0, 0);
            }
            Expect.answers("of fourteen", folded, x::prepare);
            Expect.answers("of fourteen", folded, () -> x.count(2));
            Expect.answers("of fourteen, again", folded, x::prepare);
        }
    }

    private static void runFree() {
        GraphRunner x = one(false);
        x.node(5, 0, -1, -1, 1, 0, 0);
        Expect.fails("free and not prepared", Expect.BAD, () -> x.run(2));
        x.prepare();
        Expect.fails("free", Expect.BAD, () -> x.run(2));
        Expect.works("an outcome", () -> x.run(1));
        x.undo();
        x.prepare();
        Expect.fails("an outcome that went", Expect.BAD, () -> x.run(1));
        Expect.answers("an input", 0, () -> x.run(0));
    }

    private static void runAnswers() {
        for (int length = 0; length <= 14; length++) {
            int last = length;
            GraphRunner x = one(false);
            for (int n = 0; n < 14; n++) {
                x.node(5, n, -1, -1, n + 1, 0, 0);
            }
            x.prepare();
            Expect.answers("the first " + length, length, () -> x.run(last));
            Expect.answers("the others", 14 - length, () -> x.run(14));
            Expect.answers("all fourteen known", 14, () -> x.count(3));
        }
    }

    private static void getMissing() {
        for (int rows = 1; rows <= 4; rows++) {
            for (int columns = 1; columns <= 4; columns++) {
                GraphRunner x = new GraphRunner();
                x.table(0, 0, rows, columns, false);
                x.table(1, 1, rows, columns, true);
                x.node(5, 0, -1, -1, 2, 0, 0);
                x.node(7, 1, -1, -1, 3, 1, 0);
                x.prepare();
                x.run(2);
                for (int s = 0; s <= 3; s++) {
                    getAround(x, s, rows, columns);
                }
            }
        }
        GraphRunner x = one(false);
        x.node(5, 0, -1, -1, 1, 0, 0);
        Expect.answers("an input though not prepared", 2, () -> x.get(0, 0, 0));
        Expect.fails("an outcome, not prepared", Expect.MISSING, () -> x.get(1, 0, 0));
        x.prepare();
        Expect.fails("an outcome, not known", Expect.MISSING, () -> x.get(1, 0, 0));
        x.run(1);
        Expect.answers("an outcome, known", 2, () -> x.get(1, 0, 0));
        x.undo();
        Expect.fails("free again", Expect.MISSING, () -> x.get(1, 0, 0));
        for (int far : new int[] {Integer.MIN_VALUE, -8, 16, Integer.MAX_VALUE}) {
            Expect.fails("row " + far, Expect.MISSING, () -> x.get(0, far, 0));
            Expect.fails("column " + far, Expect.MISSING, () -> x.get(0, 0, far));
        }
    }

    private static void getAround(GraphRunner x, int s, int rows, int columns) {
        for (int i = -1; i <= 4; i++) {
            for (int j = -1; j <= 4; j++) {
                int row = i;
                int column = j;
                String what = "slot " + s + ", " + rows + " x " + columns + ", (" + i + ", " + j + ")";
                if (i >= 0 && i < rows && j >= 0 && j < columns) {
                    Expect.answers(what, 0, () -> x.get(s, row, column));
                } else {
                    Expect.fails(what, Expect.MISSING, () -> x.get(s, row, column));
                }
            }
        }
    }

    private static void slotKinds() {
        GraphRunner x = one(false);
        x.table(1, 0, 1, 1, true);
        x.node(5, 0, -1, -1, 2, 0, 0);
        x.node(5, 1, -1, -1, 3, 0, 0);
        int[] due = {1, 2, 3, 3, 0};
        for (int when = 0; when <= 1; when++) {
            for (int s = 0; s < due.length; s++) {
                int asked = s;
                Expect.answers("slot " + s + " at " + when, due[s], () -> x.slot(asked, 0));
            }
            x.prepare();
        }
        x.undo();
        Expect.answers("gone", 0, () -> x.slot(3, 0));
    }

    private static void slotMissing() {
        GraphRunner x = new GraphRunner();
        x.table(0, 0, 4, 1, false);
        x.table(1, 1, 1, 4, true);
        x.node(6, 1, -1, -1, 2, 0, 0);
        int[][] due = {{0, 4, 1}, {1, 1, 4}, {1, 4, 1}};
        for (int what = 1; what <= 3; what++) {
            int asked = what;
            Expect.answers("an input, not prepared", due[0][what - 1], () -> x.slot(0, asked));
            Expect.answers("a constant, not prepared", due[1][what - 1], () -> x.slot(1, asked));
            Expect.fails("an outcome, not prepared", Expect.MISSING, () -> x.slot(2, asked));
            Expect.fails("free, not prepared", Expect.MISSING, () -> x.slot(3, asked));
        }
        x.prepare();
        for (int what = 1; what <= 3; what++) {
            int asked = what;
            Expect.answers("an outcome", due[2][what - 1], () -> x.slot(2, asked));
            Expect.fails("free", Expect.MISSING, () -> x.slot(3, asked));
        }
        for (int what : new int[] {-1, 4, Integer.MIN_VALUE, Integer.MAX_VALUE}) {
            for (int s = 0; s <= 3; s++) {
                int asked = s;
                Expect.fails("slot(" + s + ", " + what + ")", Expect.BAD, () -> x.slot(asked, what));
            }
        }
        x.set(1, 0, 0, 1);
        Expect.fails("not prepared any more", Expect.MISSING, () -> x.slot(2, 1));
    }

    private static void counts(String when, GraphRunner x, int... due) {
        for (int what = 0; what < due.length; what++) {
            int asked = what;
            Expect.answers(when + ", count(" + what + ")", due[what], () -> x.count(asked));
        }
    }

    private static void countsOfNow() {
        GraphRunner x = one(false);
        x.table(18, 0, 1, 1, true);
        counts("no node", x, 0, 0, 0, 0);
        x.prepare();
        counts("prepared", x, 0, 1, 0, 0);
        for (int n = 0; n < 14; n++) {
            x.node(5, n < 7 ? n : 18, -1, -1, n + 1, 0, 0);
        }
        counts("fourteen", x, 14, 0, 0, 0);
        x.prepare();
        counts("fourteen prepared", x, 14, 1, 7, 0);
        x.run(14);
        counts("a folded one run for", x, 14, 1, 7, 0);
        x.run(7);
        counts("the others known", x, 14, 1, 7, 7);
        x.set(0, 0, 0, 3);
        counts("an input set", x, 14, 1, 7, 0);
        x.set(18, 0, 0, 3);
        counts("a constant set", x, 14, 0, 0, 0);
    }

    private static void countsInAll() {
        GraphRunner x = new GraphRunner();
        Tables.feed(x, 0, false, Tables.ints(Tables.r(0)));
        x.table(1, 1, 1, 1, true);
        x.node(6, 0, -1, -1, 2, 0, 0);
        x.node(3, 0, 2, -1, 3, 0, 0);
        x.node(6, 3, -1, -1, 4, 0, 0);
        x.node(3, 1, 1, -1, 5, 0, 0);
        x.prepare();
        counts("a folding that threw isn't counted", x, 4, 1, 0, 0, 0, 0);
        Expect.fails("divides by 0", Expect.ARITHMETIC, () -> x.run(4));
        counts("one to the end, one thrown in", x, 4, 1, 0, 1, 1, 1);
        Expect.fails("once more", Expect.ARITHMETIC, () -> x.run(3));
        counts("thrown in once more", x, 4, 1, 0, 1, 1, 2);
        Expect.fails("of constants", Expect.ARITHMETIC, () -> x.run(5));
        counts("of constants", x, 4, 1, 0, 1, 1, 3);
        x.set(0, 0, 0, 2);
        x.run(4);
        counts("three to the end", x, 4, 1, 0, 3, 4, 3);
        Expect.fails("free", Expect.BAD, () -> x.run(9));
        counts("a refused run", x, 4, 1, 0, 3, 4, 3);
        x.undo();
        x.undo();
        x.undo();
        x.undo();
        counts("they stay though the nodes go", x, 0, 0, 0, 0, 4, 3);
        Expect.fails("not prepared", Expect.STATE, () -> x.run(0));
        counts("a run when not prepared", x, 0, 0, 0, 0, 4, 3);
        x.node(6, 0, -1, -1, 2, 0, 0);
        x.prepare();
        counts("prepared anew", x, 1, 1, 0, 0, 4, 3);
        x.run(2);
        counts("counted on", x, 1, 1, 0, 1, 5, 3);
    }

    private static void countOrder() {
        for (int nodes = 0; nodes <= 14; nodes++) {
            GraphRunner x = one(false);
            for (int n = 0; n < nodes; n++) {
                x.node(5, n == nodes - 1 ? 0 : n + 2, -1, -1, n + 1, 0, 0);
            }
            for (int place = 0; place < 14; place++) {
                int asked = 10 + place;
                Expect.answers(nodes + " nodes, not prepared, place " + place, -1, () -> x.count(asked));
            }
            x.prepare();
            for (int place = -1; place <= 14; place++) {
                int asked = 10 + place;
                int due = place >= 0 && place < nodes ? nodes - 1 - place : -1;
                Expect.answers(nodes + " nodes, place " + place, due, () -> x.count(asked));
            }
        }
        GraphRunner fewer = one(false);
        fewer.node(5, 2, -1, -1, 1, 0, 0);
        fewer.node(5, 0, -1, -1, 2, 0, 0);
        fewer.prepare();
        fewer.undo();
        Expect.answers("one went, not prepared", -1, () -> fewer.count(10));
        fewer.table(2, 0, 1, 1, false);
        fewer.prepare();
        Expect.answers("one went, the other is first", 0, () -> fewer.count(10));
        Expect.answers("one went, none behind", -1, () -> fewer.count(11));
        GraphRunner x = one(false);
        for (int what : new int[] {Integer.MIN_VALUE, -10, -1, 6, 7, 8, 9, 24, 25, Integer.MAX_VALUE}) {
            Expect.answers("count(" + what + ")", -1, () -> x.count(what));
        }
    }
}
