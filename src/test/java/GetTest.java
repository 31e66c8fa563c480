/** Promise 8. */
final class GetTest {
    public static void main(String[] args) {
        GraphRunner x = new GraphRunner();
        Expect.floats(x, 0, false, Expect.rows(Expect.of(1, 2), Expect.of(3, 4.5)));
        Expect.ints(x, 1, true, Expect.row(7));
        x.node(6, 0, -1, -1, 2, 0, 0);
        x.node(6, 1, -1, -1, 3, 0, 0);
        Expect.answers("an input though not prepared", 4.5, () -> x.get(0, 1, 1));
        Expect.answers("a constant though not prepared", 7, () -> x.get(1, 0, 0));
        Expect.fails("nothing is folded yet", Expect.MISSING, () -> x.get(3, 0, 0));
        x.prepare();
        Expect.answers("folded", 7, () -> x.get(3, 0, 0));
        Expect.fails("not known yet", Expect.MISSING, () -> x.get(2, 0, 0));
        x.run(2);
        Expect.answers("known", 3, () -> x.get(2, 0, 1));

        for (int s : new int[] {-1, 20, Integer.MIN_VALUE, Integer.MAX_VALUE}) {
            Expect.fails("bad slot " + s, Expect.BAD, () -> x.get(s, 0, 0));
            Expect.fails("bad comes before missing: " + s, Expect.BAD, () -> x.get(s, -1, 9));
        }
        Expect.fails("free", Expect.MISSING, () -> x.get(9, 0, 0));
        int[][] outside = {
            {-1, 0}, {2, 0}, {0, -1}, {0, 2}, {4, 0}, {0, 4}, {Integer.MIN_VALUE, 0}, {0, Integer.MAX_VALUE},
        };
        for (int[] o : outside) {
            Expect.fails("(" + o[0] + ", " + o[1] + ")", Expect.MISSING, () -> x.get(0, o[0], o[1]));
            Expect.fails("known (" + o[0] + ", " + o[1] + ")", Expect.MISSING, () -> x.get(2, o[0], o[1]));
        }
        Expect.answers("get changes nothing", 1, () -> x.count(3));
        x.set(0, 0, 0, 9);
        Expect.fails("not known any more", Expect.MISSING, () -> x.get(2, 0, 1));
        Expect.end();
    }
}
