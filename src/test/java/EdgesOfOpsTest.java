/** The boundary cases of the OPS 0 to 18, sentence by sentence. */
final class EdgesOfOpsTest {
    private static final int F = Tables.FLOAT;
    private static final int I = Tables.INT;

    public static void main(String[] args) {
        Expect.sentence("a and b of the same TYPE, FITTING", EdgesOfOpsTest::sameType);
        Expect.sentence("DIVIDE by 0 or 0.0: ArithmeticException", EdgesOfOpsTest::divideByZero);
        Expect.sentence("INTS towards zero", EdgesOfOpsTest::divideInts);
        Expect.sentence("4 PRODUCT of FLOATS: C of a is R of b", EdgesOfOpsTest::productFits);
        Expect.sentence("row i, column j is 0.0, to which a(i, k) * b(k, j) are added for k from 0 on",
                EdgesOfOpsTest::productAdds);
        Expect.sentence("5 POSITIVE: of FLOATS, x if it's above 0.0, else 0.0", EdgesOfOpsTest::positive);
        Expect.sentence("6 TURN: row and column change places", EdgesOfOpsTest::turn);
        Expect.sentence("7 CAST to the TYPE p (0, 1): FLOATS towards zero", EdgesOfOpsTest::cast);
        Expect.sentence("8 LESS: a and b as for ADD; INT 1 where a is below b, else 0", EdgesOfOpsTest::less);
        Expect.sentence("9 WHERE: c INT, a and b of the same TYPE, all FITTING (a with b, then with c)",
                EdgesOfOpsTest::whereFits);
        Expect.sentence("a where c isn't 0, else b", EdgesOfOpsTest::whereChooses);
        gathering();
        rows();
        sliding();
        choosing();
        Expect.end();
    }

    private static void gathering() {
        Expect.sentence("over the rows (p = 0: one row is the outcome) or columns (p = 1)", EdgesOfOpsTest::overWhich);
        Expect.sentence("SUMS begin with 0", EdgesOfOpsTest::sumsBegin);
        Expect.sentence("GREATEST with the first one, another one taking its place if it's greater",
                EdgesOfOpsTest::greatest);
        Expect.sentence("12 FIRST GREATEST: an INT for each row, the column of its GREATEST, R x 1",
                EdgesOfOpsTest::firstGreatest);
    }

    private static void rows() {
        Expect.sentence("13 JOIN: a and then b, of the same TYPE", EdgesOfOpsTest::joinTypes);
        Expect.sentence("by rows (p = 0: C the same) or by columns (p = 1: R the same), at most 4",
                EdgesOfOpsTest::joinFits);
        Expect.sentence("14 CUT: rows p .. q of a", EdgesOfOpsTest::cut);
        Expect.sentence("15 PICK: the rows of a that the INTS of b, which has one row, name, in order",
                EdgesOfOpsTest::pickFits);
        Expect.sentence("below 0 counts from the end (-1 the last)", EdgesOfOpsTest::pickFromTheEnd);
        Expect.sentence("none such: IndexOutOfBoundsException", EdgesOfOpsTest::pickNoneSuch);
    }

    private static void sliding() {
        Expect.sentence("16 SLIDE: FLOATS, b with one row and K columns", EdgesOfOpsTest::slideFits);
        Expect.sentence("with q (0 .. 2) columns of 0.0 put before and behind a, and steps p (1, 2)",
                EdgesOfOpsTest::slideNumbers);
        Expect.sentence("column j is 0.0, to which (column j p + k of that) * b(0, k) are added for k from 0 on",
                EdgesOfOpsTest::slideAdds);
        Expect.sentence("as many columns as begin so that all K are there, 1 to 4", EdgesOfOpsTest::slideColumns);
    }

    private static void choosing() {
        Expect.sentence("17 CHOICE: c INT, 1 x 1, a and b of the same TYPE and SHAPE", EdgesOfOpsTest::choiceFits);
        Expect.sentence("a, if c isn't 0, else b", EdgesOfOpsTest::choiceChooses);
        Expect.sentence("18 BOUND: FLOATS; p if x is below p, else q if it's above q, else x", EdgesOfOpsTest::bound);
    }

    private static double[] r(double... cells) {
        return cells;
    }

    private static Tables.Table floats(double[]... rows) {
        return Tables.floats(rows);
    }

    private static Tables.Table ints(double[]... rows) {
        return Tables.ints(rows);
    }

    private static Tables.Table zeros(int type, int rows, int columns) {
        return Tables.zeros(type, rows, columns);
    }

    private static void fitsIf(boolean due, int op, int p, int q, Tables.Table outcome, Tables.Table... arguments) {
        if (due) {
            Tables.fits(op, p, q, outcome.type(), outcome.rows().length, outcome.rows()[0].length, arguments);
        } else {
            Tables.unfit(op, p, q, arguments);
        }
    }

    private static void sameType() {
        for (int op : new int[] {0, 1, 2, 3}) {
            Tables.fits(op, 8, -8, F, 1, 1, zeros(F, 1, 1), zeros(F, 1, 1));
            Tables.fits(op, -8, 8, I, 4, 4, zeros(I, 4, 4), zeros(I, 4, 4));
            Tables.unfit(op, 0, 0, zeros(F, 1, 1), zeros(I, 1, 1));
            Tables.unfit(op, 0, 0, zeros(I, 1, 1), zeros(F, 1, 1));
            Tables.unfit(op, 0, 0, zeros(F, 2, 1), zeros(F, 3, 1));
            Tables.unfit(op, 0, 0, zeros(F, 1, 4), zeros(F, 1, 3));
            Tables.unfit(op, 0, 0, zeros(F, 2, 4), zeros(F, 4, 2));
        }
    }

    private static void divideByZero() {
        Tables.thrown(3, 0, 0, Expect.ARITHMETIC, ints(r(1)), ints(r(0)));
        Tables.thrown(3, 0, 0, Expect.ARITHMETIC, ints(r(0)), ints(r(0)));
        Tables.thrown(3, 0, 0, Expect.ARITHMETIC, floats(r(1)), floats(r(0)));
        Tables.thrown(3, 0, 0, Expect.ARITHMETIC, floats(r(0)), floats(r(0)));
        Tables.thrown(3, 0, 0, Expect.ARITHMETIC, floats(r(0)), floats(r(-0.0)));
        Tables.thrown(3, 0, 0, Expect.ARITHMETIC, floats(r(-5)), floats(r(-0.0)));
        for (int cell = 0; cell < 4; cell++) {
            for (int type = F; type <= I; type++) {
                Tables.Table by = Tables.filled(type, 1, 4, 1);
                by.rows()[0][cell] = 0;
                Tables.thrown(3, 0, 0, Expect.ARITHMETIC, zeros(type, 4, 1), by);
                Tables.Table standing = Tables.filled(type, 4, 1, 1);
                standing.rows()[cell][0] = 0;
                Tables.thrown(3, 0, 0, Expect.ARITHMETIC, zeros(type, 1, 4), standing);
            }
        }
        Tables.gives(3, 0, 0, floats(r(0.0, -0.0)), floats(r(0)), floats(r(0.5, -0.5)));
        Tables.gives(3, 0, 0, floats(r(1)), floats(r(Double.MIN_VALUE)), floats(r(Double.MIN_VALUE)));
    }

    private static void divideInts() {
        Tables.gives(3, 0, 0, ints(r(3, -3, -3, 3)), ints(r(7, -7, 7, -7)), ints(r(2, 2, -2, -2)));
        Tables.gives(3, 0, 0, ints(r(0, 0, 0, 0)), ints(r(1, -1, 1, -1)), ints(r(2, 2, -2, -2)));
        Tables.gives(3, 0, 0, ints(r(0, 1, -1, 1)), ints(r(999, 1000, -1000, -1000)), ints(r(1000, 1000, 1000, -1000)));
        Tables.gives(3, 0, 0, ints(r(7, -7), r(-7, 7), r(1, 0)),
                ints(r(7, -7), r(7, -7), r(1, 0)), ints(r(1), r(-1), r(1)));
        Tables.gives(3, 0, 0, Tables.filled(I, 4, 4, -3), Tables.filled(I, 4, 4, 7), Tables.filled(I, 4, 4, -2));
        Tables.gives(3, 0, 0, Tables.filled(I, 1, 4, -3), Tables.filled(I, 1, 4, -7), Tables.filled(I, 1, 4, 2));
        Tables.gives(3, 0, 0, Tables.filled(I, 4, 1, 3), Tables.filled(I, 4, 1, -7), Tables.filled(I, 4, 1, -2));
        Tables.gives(3, 0, 0, floats(r(3.5, -3.5)), floats(r(7, -7)), floats(r(2)));
    }

    private static void productFits() {
        for (int shapes = 0; shapes < 256; shapes++) {
            int aRows = 1 + shapes % 4;
            int aColumns = 1 + shapes / 4 % 4;
            int bRows = 1 + shapes / 16 % 4;
            int bColumns = 1 + shapes / 64;
            fitsIf(aColumns == bRows, 4, 8, -8, zeros(F, aRows, bColumns),
                    zeros(F, aRows, aColumns), zeros(F, bRows, bColumns));
        }
        Tables.unfit(4, 0, 0, zeros(I, 1, 1), zeros(I, 1, 1));
        Tables.unfit(4, 0, 0, zeros(F, 1, 1), zeros(I, 1, 1));
        Tables.unfit(4, 0, 0, zeros(I, 1, 1), zeros(F, 1, 1));
    }

    private static void productAdds() {
        Tables.gives(4, 0, 0, floats(r(0.0)), floats(r(-0.0)), floats(r(5)));
        Tables.gives(4, 0, 0, floats(r(0.0)), floats(r(-0.0, -0.0)), floats(r(1), r(1)));
        double sum = 0.0 + 0.1 * 2 + 0.2 * 2 + 0.3 * 2 + -0.6 * 2;
        double reversed = -0.6 * 2 + 0.3 * 2 + 0.2 * 2 + 0.1 * 2;
        Expect.look("the order matters", sum != reversed, "the same", "another sum");
        Tables.gives(4, 0, 0, floats(r(sum)), floats(r(0.1, 0.2, 0.3, -0.6)), floats(r(2), r(2), r(2), r(2)));
        Tables.gives(4, 0, 0, floats(r(2, 1, 0), r(4, 3, 0), r(6, 5, 0), r(0, 7, 0)),
                floats(r(1, 2), r(3, 4), r(5, 6), r(7, 0)), floats(r(0, 1, 0), r(1, 0, 0)));
        Tables.gives(4, 0, 0, Tables.filled(F, 4, 4, 24), Tables.filled(F, 4, 4, 2), Tables.filled(F, 4, 4, 3));
        Tables.gives(4, 0, 0, floats(r(5, 6, 7, 8)), floats(r(1)), floats(r(5, 6, 7, 8)));
        Tables.gives(4, 0, 0, floats(r(5), r(6), r(7), r(8)), floats(r(5), r(6), r(7), r(8)), floats(r(1)));
    }

    private static void positive() {
        double tiny = Double.MIN_VALUE;
        Tables.gives(5, 8, -8, floats(r(0.0, 0.0, tiny, 0.0)), floats(r(0.0, -0.0, tiny, -tiny)));
        Tables.gives(5, -8, 8, floats(r(1000), r(0.0), r(0.5), r(0.0)), floats(r(1000), r(-1000), r(0.5), r(-0.5)));
        Tables.unfit(5, 0, 0, zeros(I, 1, 1));
        Tables.unfit(5, 0, 0, zeros(I, 4, 4));
    }

    private static void turn() {
        for (int rows = 1; rows <= 4; rows++) {
            for (int columns = 1; columns <= 4; columns++) {
                for (int type = F; type <= I; type++) {
                    Tables.Table a = zeros(type, rows, columns);
                    Tables.Table due = zeros(type, columns, rows);
                    for (int k = 0; k < rows * columns; k++) {
                        a.rows()[k / columns][k % columns] = k + 1;
                        due.rows()[k % columns][k / columns] = k + 1;
                    }
                    Tables.gives(6, 8, -8, due, a);
                }
            }
        }
    }

    private static void cast() {
        for (int p = -8; p <= 8; p++) {
            for (int type = F; type <= I; type++) {
                fitsIf(p == 0 || p == 1, 7, p, 8, zeros(p, 2, 3), zeros(type, 2, 3));
            }
        }
        double below = Math.nextDown(1.0);
        Tables.gives(7, 1, -8, ints(r(0, 0, 0, 0)), floats(r(below, -below, 0.5, -0.5)));
        Tables.gives(7, 1, 8, ints(r(1, -1, 1, -1)), floats(r(1.0, -1.0, 1.999, -1.999)));
        Tables.gives(7, 1, 0, ints(r(0, 0, 1000, -1000)), floats(r(-0.0, Double.MIN_VALUE, 1000, -1000)));
        Tables.gives(7, 1, 0, ints(r(999, -999)), floats(r(Math.nextDown(1000.0), -Math.nextDown(1000.0))));
        Tables.gives(7, 0, 0, floats(r(1000, -1000, 0)), ints(r(1000, -1000, 0)));
        Tables.gives(7, 1, 0, ints(r(1000, -1000, 0)), ints(r(1000, -1000, 0)));
        castOfLarge();
    }

    private static void castOfLarge() {
        GraphRunner x = new GraphRunner();
        Tables.feed(x, 0, false, floats(r(1000, -1000)));
        Tables.feed(x, 1, false, floats(r(Math.nextDown(1000.0), Math.nextDown(1000.0))));
        Tables.feed(x, 2, false, floats(r(1000, 1000)));
        x.node(2, 0, 2, -1, 3, 0, 0);
        x.node(2, 3, 1, -1, 4, 0, 0);
        x.node(7, 4, -1, -1, 5, 1, 0);
        x.prepare();
        Expect.answers("large floats to ints", 3, () -> x.run(5));
        Expect.holds("large floats to ints", x, 5, I, Expect.row(999999999, -999999999));
    }

    private static void less() {
        Tables.gives(8, 8, -8, ints(r(0, 1, 0, 0)), floats(r(1, Math.nextDown(1.0), Math.nextUp(1.0), 2)),
                floats(r(1)));
        Tables.gives(8, 0, 0, ints(r(0, 0, 1, 0)), floats(r(-0.0, 0.0, -Double.MIN_VALUE, 0)),
                floats(r(0.0, -0.0, 0, -Double.MIN_VALUE)));
        Tables.gives(8, 0, 0, ints(r(0, 1, 0), r(0, 1, 1)), ints(r(5, 4, 6), r(6, 4, 5)), ints(r(5, 5, 5), r(5, 5, 6)));
        Tables.gives(8, 0, 0, ints(r(1, 0)), ints(r(-1000, 1000)), ints(r(1000, -1000)));
        Tables.unfit(8, 0, 0, zeros(F, 1, 1), zeros(I, 1, 1));
        Tables.unfit(8, 0, 0, zeros(I, 1, 1), zeros(F, 1, 1));
        Tables.unfit(8, 0, 0, zeros(I, 2, 1), zeros(I, 3, 1));
    }

    private static boolean fit(int one, int other) {
        return one == other || one == 1 || other == 1;
    }

    private static void whereFits() {
        for (int sides = 0; sides < 64; sides++) {
            int a = 1 + sides % 4;
            int b = 1 + sides / 4 % 4;
            int c = 1 + sides / 16;
            int both = Math.max(a, b);
            boolean due = fit(a, b) && fit(both, c);
            int all = Math.max(both, c);
            for (int type = F; type <= I; type++) {
                fitsIf(due, 9, 8, -8, zeros(type, all, 2), zeros(type, a, 2), zeros(type, b, 1), zeros(I, c, 1));
                fitsIf(due, 9, -8, 8, zeros(type, 3, all), zeros(type, 1, a), zeros(type, 3, b), zeros(I, 3, c));
            }
        }
        for (int types = 0; types < 8; types++) {
            int a = types % 2;
            int b = types / 2 % 2;
            int c = types / 4;
            fitsIf(a == b && c == I, 9, 0, 0, zeros(a, 1, 1), zeros(a, 1, 1), zeros(b, 1, 1), zeros(c, 1, 1));
        }
    }

    private static void whereChooses() {
        Tables.gives(9, 0, 0, floats(r(5, 1, 1, 1)), floats(r(1)), floats(r(5)), ints(r(0, 1, -1, 1000)));
        Tables.gives(9, 0, 0, ints(r(1, 9), r(9, 4)), ints(r(1, 2), r(3, 4)), ints(r(9)), ints(r(1, 0), r(0, -1000)));
        Tables.gives(9, 0, 0, floats(r(1, 2), r(10, 10), r(1, 2)), floats(r(1, 2)), floats(r(10)),
                ints(r(2), r(0), r(-2)));
        Tables.gives(9, 0, 0, floats(r(-0.0)), floats(r(-0.0)), floats(r(0.0)), ints(r(1)));
        for (int rows = 1; rows <= 4; rows++) {
            for (int columns = 1; columns <= 4; columns++) {
                Tables.gives(9, 0, 0, Tables.filled(F, rows, columns, 5), floats(r(1)),
                        Tables.filled(F, rows, columns, 5), ints(r(0)));
                Tables.gives(9, 0, 0, Tables.filled(I, rows, columns, 1), ints(r(1)), ints(r(5)),
                        Tables.filled(I, rows, columns, -1));
            }
        }
    }

    private static void overWhich() {
        for (int op = 10; op <= 11; op++) {
            for (int p = -8; p <= 8; p++) {
                for (int type = F; type <= I; type++) {
                    fitsIf(p == 0 || p == 1, op, p, 8, p == 0 ? zeros(type, 1, 3) : zeros(type, 4, 1),
                            zeros(type, 4, 3));
                }
            }
            Tables.fits(op, 0, -8, F, 1, 1, zeros(F, 1, 1));
            Tables.fits(op, 1, -8, I, 1, 1, zeros(I, 1, 1));
        }
        for (int type = F; type <= I; type++) {
            Tables.Table a = new Tables.Table(type, new double[][] {{1, 20, 300}, {4, 50, 600}});
            Tables.gives(10, 0, 0, new Tables.Table(type, new double[][] {{5, 70, 900}}), a);
            Tables.gives(10, 1, 0, new Tables.Table(type, new double[][] {{321}, {654}}), a);
            Tables.gives(11, 0, 0, new Tables.Table(type, new double[][] {{4, 50, 600}}), a);
            Tables.gives(11, 1, 0, new Tables.Table(type, new double[][] {{300}, {600}}), a);
        }
    }

    private static void sumsBegin() {
        for (int type = F; type <= I; type++) {
            for (int p = 0; p <= 1; p++) {
                GraphRunner x = Tables.graph(false, 10, p, 0, Tables.filled(type, 3, 3, 5));
                x.prepare();
                x.run(9);
                x.set(0, 1, 1, 6);
                Expect.answers("worked out again", 1, () -> x.run(9));
                double[][] due = p == 0 ? Expect.row(15, 16, 15)
                        : Expect.rows(Expect.of(15), Expect.of(16), Expect.of(15));
                Expect.holds("from 0 again", x, 9, type, due);
            }
        }
        Tables.gives(10, 0, 0, Tables.filled(I, 1, 4, 8), Tables.filled(I, 4, 4, 2));
        Tables.gives(10, 1, 0, Tables.filled(I, 4, 1, 8), Tables.filled(I, 4, 4, 2));
        Tables.gives(10, 0, 0, floats(r(0.0)), floats(r(-0.0)));
        Tables.gives(10, 1, 0, floats(r(0.0)), floats(r(-0.0, -0.0, -0.0, -0.0)));
        Tables.gives(10, 0, 0, floats(r(7, -7)), floats(r(7, -7)));
        Tables.gives(10, 1, 0, ints(r(-1), r(2)), ints(r(-1), r(2)));
        Tables.gives(10, 0, 0, ints(r(4000, -4000)),
                ints(r(1000, -1000), r(1000, -1000), r(1000, -1000), r(1000, -1000)));
    }

    private static void greatest() {
        for (int p = 0; p <= 1; p++) {
            GraphRunner x = Tables.graph(false, 11, p, 0, floats(r(9)));
            x.prepare();
            x.run(9);
            x.set(0, 0, 0, -9);
            x.run(9);
            Expect.answers("worked out again, with the first one again", -9, () -> x.get(9, 0, 0));
        }
        Tables.gives(11, 1, 0, floats(r(-1)), floats(r(-2, -1, -3, -4)));
        Tables.gives(11, 0, 0, ints(r(-1)), ints(r(-4), r(-3), r(-2), r(-1)));
        Tables.gives(11, 1, 0, floats(r(-0.0), r(0.0)), floats(r(-0.0, 0.0), r(0.0, -0.0)));
        Tables.gives(11, 0, 0, floats(r(-0.0, 0.0)), floats(r(-0.0, 0.0), r(0.0, -0.0)));
        Tables.gives(11, 1, 0, floats(r(Math.nextUp(1.0))), floats(r(1, Math.nextUp(1.0), 1)));
        Tables.gives(11, 1, 0, ints(r(5), r(5), r(5), r(5)),
                ints(r(5, 1, 1, 1), r(1, 5, 1, 1), r(1, 1, 5, 1), r(1, 1, 1, 5)));
        Tables.gives(11, 0, 0, ints(r(5, 5, 5, 5)), ints(r(5, 1, 1, 1), r(1, 5, 1, 1), r(1, 1, 5, 1), r(1, 1, 1, 5)));
    }

    private static void firstGreatest() {
        for (int rows = 1; rows <= 4; rows++) {
            for (int columns = 1; columns <= 4; columns++) {
                Tables.gives(12, 8, -8, zeros(I, rows, 1), zeros(F, rows, columns));
                Tables.gives(12, -8, 8, zeros(I, rows, 1), Tables.filled(I, rows, columns, -7));
            }
        }
        Tables.gives(12, 0, 0, ints(r(0), r(1), r(2), r(3)),
                floats(r(1, 0, 0, 0), r(0, 1, 0, 0), r(0, 0, 1, 0), r(0, 0, 0, 1)));
        Tables.gives(12, 0, 0, ints(r(1), r(1), r(2)), ints(r(-9, 3, 3, 3), r(-9, 3, 2, 3), r(-9, -8, -7, -7)));
        Tables.gives(12, 0, 0, ints(r(0), r(0)), floats(r(-0.0, 0.0), r(0.0, -0.0)));
        Tables.gives(12, 0, 0, ints(r(1), r(1), r(1), r(1)), ints(r(1, 2), r(-2, -1), r(0, 1), r(-1, 0)));
        Tables.gives(12, 0, 0, ints(r(3)), floats(r(0.1, 0.2, 0.3, 0.4)));
    }

    private static void joinTypes() {
        for (int p = 0; p <= 1; p++) {
            Tables.fits(13, p, 8, F, 2 - p, 1 + p, zeros(F, 1, 1), zeros(F, 1, 1));
            Tables.fits(13, p, -8, I, 2 - p, 1 + p, zeros(I, 1, 1), zeros(I, 1, 1));
            Tables.unfit(13, p, 0, zeros(F, 1, 1), zeros(I, 1, 1));
            Tables.unfit(13, p, 0, zeros(I, 1, 1), zeros(F, 1, 1));
        }
        Tables.gives(13, 0, 0, ints(r(1, 2), r(3, 4), r(5, 6), r(7, 8)), ints(r(1, 2)),
                ints(r(3, 4), r(5, 6), r(7, 8)));
        Tables.gives(13, 1, 0, floats(r(1, 3, 4, 5), r(2, 6, 7, 8)), floats(r(1), r(2)),
                floats(r(3, 4, 5), r(6, 7, 8)));
    }

    private static void joinFits() {
        for (int shapes = 0; shapes < 256; shapes++) {
            int aRows = 1 + shapes % 4;
            int aColumns = 1 + shapes / 4 % 4;
            int bRows = 1 + shapes / 16 % 4;
            int bColumns = 1 + shapes / 64;
            Tables.Table a = zeros(F, aRows, aColumns);
            Tables.Table b = zeros(F, bRows, bColumns);
            fitsIf(aColumns == bColumns && aRows + bRows <= 4, 13, 0, 8, zeros(F, aRows + bRows, aColumns), a, b);
            fitsIf(aRows == bRows && aColumns + bColumns <= 4, 13, 1, -8, zeros(F, aRows, aColumns + bColumns), a, b);
        }
        for (int p = -8; p <= 8; p++) {
            if (p < 0 || p > 1) {
                Tables.unfit(13, p, 0, zeros(I, 1, 1), zeros(I, 1, 1));
            }
        }
    }

    private static void cut() {
        for (int rows = 1; rows <= 4; rows++) {
            for (int p = -8; p <= 8; p++) {
                for (int q = -8; q <= 8; q++) {
                    boolean due = p >= 0 && p <= q && q < rows;
                    fitsIf(due, 14, p, q, due ? zeros(I, q - p + 1, 2) : null, zeros(I, rows, 2));
                }
            }
        }
        Tables.Table a = floats(r(1, 2), r(3, 4), r(5, 6), r(7, 8));
        Tables.gives(14, 0, 3, a, a);
        Tables.gives(14, 0, 0, floats(r(1, 2)), a);
        Tables.gives(14, 3, 3, floats(r(7, 8)), a);
        Tables.gives(14, 1, 2, floats(r(3, 4), r(5, 6)), a);
    }

    private static void pickFits() {
        for (int rows = 1; rows <= 4; rows++) {
            for (int columns = 1; columns <= 4; columns++) {
                fitsIf(rows == 1, 15, 8, -8, zeros(F, columns, 3), zeros(F, 2, 3), zeros(I, rows, columns));
                fitsIf(rows == 1, 15, -8, 8, zeros(I, columns, 1), zeros(I, 4, 1), zeros(I, rows, columns));
                Tables.unfit(15, 0, 0, zeros(F, 2, 3), zeros(F, rows, columns));
            }
        }
        Tables.gives(15, 0, 0, floats(r(3, 4), r(1, 2), r(3, 4), r(3, 4)), floats(r(1, 2), r(3, 4)),
                ints(r(1, 0, 1, 1)));
        Tables.gives(15, 0, 0, ints(r(7)), ints(r(7)), ints(r(0)));
        Tables.gives(15, 0, 0, ints(r(5, 6, 7, 8)), ints(r(5, 6, 7, 8)), ints(r(0)));
        Tables.gives(15, 0, 0, Tables.filled(F, 4, 4, 2.5), Tables.filled(F, 1, 4, 2.5), ints(r(0, -1, 0, -1)));
    }

    private static Tables.Table numbered(int rows) {
        Tables.Table table = zeros(F, rows, 2);
        for (int i = 0; i < rows; i++) {
            table.rows()[i][0] = i + 0.5;
            table.rows()[i][1] = -i;
        }
        return table;
    }

    private static void pickFromTheEnd() {
        for (int rows = 1; rows <= 4; rows++) {
            Tables.Table a = numbered(rows);
            for (int named = -rows; named < rows; named++) {
                double[] due = a.rows()[named < 0 ? rows + named : named];
                Tables.gives(15, 0, 0, floats(due), a, ints(r(named)));
            }
        }
        Tables.gives(15, 0, 0, ints(r(4), r(3), r(2), r(1)), ints(r(1), r(2), r(3), r(4)), ints(r(-1, -2, -3, -4)));
    }

    private static void pickNoneSuch() {
        for (int rows = 1; rows <= 4; rows++) {
            for (int beyond : new int[] {rows, rows + 1, 1000, -rows - 1, -rows - 2, -1000}) {
                Tables.thrown(15, 0, 0, Expect.INDEX, numbered(rows), ints(r(beyond)));
                Tables.thrown(15, 0, 0, Expect.INDEX, numbered(rows), ints(r(0, -1, 0, beyond)));
            }
        }
        pickExtremes();
    }

    private static void pickExtremes() {
        for (int sign = -1; sign <= 1; sign += 2) {
            GraphRunner x = new GraphRunner();
            Tables.feed(x, 0, false, ints(r(512)));
            Tables.feed(x, 1, false, ints(r(sign * 8)));
            Tables.feed(x, 2, false, ints(r(sign > 0 ? 1 : 0)));
            x.node(2, 0, 0, -1, 3, 0, 0);
            x.node(2, 3, 0, -1, 4, 0, 0);
            x.node(2, 4, 1, -1, 5, 0, 0);
            x.node(1, 5, 2, -1, 6, 0, 0);
            x.node(0, 6, 5, -1, 7, 0, 0);
            x.node(15, 0, 7, -1, 8, 0, 0);
            x.prepare();
            x.run(7);
            int due = sign > 0 ? Integer.MAX_VALUE : Integer.MIN_VALUE;
            Expect.answers("row " + due, due, () -> x.get(7, 0, 0));
            Expect.fails("row " + due, Expect.INDEX, () -> x.run(8));
        }
    }

    private static void slideFits() {
        for (int types = 0; types < 4; types++) {
            boolean due = types == 0;
            fitsIf(due, 16, 1, 0, zeros(F, 2, 2), zeros(types % 2, 2, 3), zeros(types / 2, 1, 2));
        }
        for (int rows = 1; rows <= 4; rows++) {
            fitsIf(rows == 1, 16, 1, 0, zeros(F, 4, 3), zeros(F, 4, 4), zeros(F, rows, 2));
            Tables.fits(16, 1, 0, F, rows, 1, zeros(F, rows, 4), zeros(F, 1, 4));
        }
    }

    private static void slideNumbers() {
        for (int columns = 1; columns <= 4; columns++) {
            for (int k = 1; k <= 4; k++) {
                for (int p = -8; p <= 8; p++) {
                    for (int q = -8; q <= 8; q++) {
                        if (p < 1 || p > 2 || q < 0 || q > 2) {
                            Tables.unfit(16, p, q, zeros(F, 1, columns), zeros(F, 1, k));
                        }
                    }
                }
            }
        }
        Tables.fits(16, 1, 0, F, 1, 1, zeros(F, 1, 1), zeros(F, 1, 1));
        Tables.fits(16, 2, 0, F, 1, 1, zeros(F, 1, 1), zeros(F, 1, 1));
        Tables.fits(16, 1, 1, F, 1, 3, zeros(F, 1, 1), zeros(F, 1, 1));
        Tables.fits(16, 2, 2, F, 1, 3, zeros(F, 1, 1), zeros(F, 1, 1));
        Tables.fits(16, 1, 2, F, 1, 4, zeros(F, 1, 1), zeros(F, 1, 2));
        Tables.fits(16, 2, 1, F, 1, 2, zeros(F, 1, 1), zeros(F, 1, 1));
    }

    private static void slideAdds() {
        Tables.Table a = floats(r(1, 2, 3, 4), r(5, 6, 7, 8));
        Tables.gives(16, 1, 0, floats(r(12, 23, 34), r(56, 67, 78)), a, floats(r(10, 1)));
        Tables.gives(16, 2, 0, floats(r(12, 34), r(56, 78)), a, floats(r(10, 1)));
        Tables.gives(16, 2, 1, floats(r(1, 23, 40), r(5, 67, 80)), a, floats(r(10, 1)));
        Tables.gives(16, 2, 2, floats(r(0, 2, 4, 0), r(0, 6, 8, 0)), a, floats(r(0, 1)));
        Tables.gives(16, 2, 2, floats(r(0, 1, 3, 0), r(0, 5, 7, 0)), a, floats(r(1)));
        Tables.gives(16, 1, 1, floats(r(12, 123, 234, 340), r(56, 567, 678, 780)), a, floats(r(100, 10, 1)));
        Tables.gives(16, 1, 0, Tables.filled(F, 4, 4, 6), Tables.filled(F, 4, 4, 2), floats(r(3)));
        Tables.gives(16, 1, 0, Tables.filled(F, 4, 1, 8), Tables.filled(F, 4, 4, 2), floats(r(1, 1, 1, 1)));
        Tables.gives(16, 2, 2, floats(r(0, 2, 0), r(0, 4, 0), r(0, 6, 0), r(0, 8, 0)),
                floats(r(1), r(2), r(3), r(4)), floats(r(2)));
        Tables.gives(16, 1, 0, floats(r(0.0)), floats(r(-0.0)), floats(r(1)));
        Tables.gives(16, 1, 0, floats(r(0.0)), floats(r(-0.0, -0.0)), floats(r(1, 1)));
        double sum = 0.0 + 0.1 * 2 + 0.2 * 2 + 0.3 * 2 + -0.6 * 2;
        double reversed = -0.6 * 2 + 0.3 * 2 + 0.2 * 2 + 0.1 * 2;
        Expect.look("the order matters", sum != reversed, "the same", "another sum");
        Tables.gives(16, 1, 0, floats(r(sum)), floats(r(0.1, 0.2, 0.3, -0.6)), floats(r(2, 2, 2, 2)));
        slideNarrower();
    }

    /** Slot 2 held four columns before it holds two: those behind them must not count. */
    private static void slideNarrower() {
        GraphRunner x = new GraphRunner();
        Tables.feed(x, 0, false, floats(r(1, 2, 3, 4)));
        Tables.feed(x, 1, false, floats(r(10, 1)));
        x.node(5, 0, -1, -1, 2, 0, 0);
        x.prepare();
        x.run(2);
        x.undo();
        x.node(5, 1, -1, -1, 2, 0, 0);
        x.node(16, 0, 2, -1, 3, 1, 0);
        x.prepare();
        Expect.answers("narrower than before", 2, () -> x.run(3));
        Expect.holds("narrower than before", x, 3, F, Expect.row(12, 23, 34));
    }

    private static void slideColumns() {
        for (int columns = 1; columns <= 4; columns++) {
            for (int k = 1; k <= 4; k++) {
                for (int p = 1; p <= 2; p++) {
                    for (int q = 0; q <= 2; q++) {
                        int begins = 0;
                        while (begins * p + k <= columns + 2 * q) {
                            begins++;
                        }
                        boolean due = begins >= 1 && begins <= 4;
                        fitsIf(due, 16, p, q, due ? zeros(F, 3, begins) : null, zeros(F, 3, columns), zeros(F, 1, k));
                    }
                }
            }
        }
    }

    private static void choiceFits() {
        for (int types = 0; types < 8; types++) {
            int a = types % 2;
            int b = types / 2 % 2;
            int c = types / 4;
            fitsIf(a == b && c == I, 17, 8, -8, zeros(a, 2, 3), zeros(a, 2, 3), zeros(b, 2, 3), zeros(c, 1, 1));
        }
        for (int rows = 1; rows <= 4; rows++) {
            for (int columns = 1; columns <= 4; columns++) {
                fitsIf(rows == 1 && columns == 1, 17, 0, 0, zeros(F, 2, 3), zeros(F, 2, 3), zeros(F, 2, 3),
                        zeros(I, rows, columns));
                fitsIf(rows == 2 && columns == 3, 17, 0, 0, zeros(F, 2, 3), zeros(F, 2, 3), zeros(F, rows, columns),
                        zeros(I, 1, 1));
                fitsIf(rows == 2 && columns == 3, 17, 0, 0, zeros(F, 2, 3), zeros(F, rows, columns), zeros(F, 2, 3),
                        zeros(I, 1, 1));
                Tables.fits(17, 0, 0, I, rows, columns, zeros(I, rows, columns), zeros(I, rows, columns),
                        zeros(I, 1, 1));
            }
        }
    }

    private static void choiceChooses() {
        Tables.Table a = floats(r(1, -0.0), r(3, 4));
        Tables.Table b = floats(r(5, 0.0), r(7, 8));
        for (double c : new double[] {1, -1, 2, 1000, -1000}) {
            Tables.gives(17, 0, 0, a, a, b, ints(r(c)));
        }
        Tables.gives(17, 0, 0, b, a, b, ints(r(0)));
        Tables.gives(17, 0, 0, b, a, b, ints(r(-0.0)));
    }

    private static void bound() {
        double below = Math.nextDown(-1.0);
        double above = Math.nextUp(2.0);
        Tables.gives(18, -1, 2, floats(r(-1, -1, 2, 2)), floats(r(-1, below, 2, above)));
        Tables.gives(18, -1, 2, floats(r(Math.nextUp(-1.0), Math.nextDown(2.0), 0.5, -0.0)),
                floats(r(Math.nextUp(-1.0), Math.nextDown(2.0), 0.5, -0.0)));
        Tables.gives(18, -8, 8, floats(r(-8), r(8), r(-8), r(8)), floats(r(-1000), r(1000), r(-8), r(8)));
        Tables.gives(18, 0, 0, floats(r(0.0, 0.0, -0.0, 0.0)), floats(r(-5, 5, -0.0, 0.0)));
        Tables.gives(18, 8, 8, floats(r(8, 8, 8)), floats(r(7, 8, 9)));
        Tables.gives(18, 2, -3, floats(r(2, -3, -3, 2)), floats(r(1, 2, 3, -4)));
        Tables.unfit(18, -1, 2, zeros(I, 1, 1));
    }
}
