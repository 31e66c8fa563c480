/** Promise 1. */
final class NewObjectTest {
    public static void main(String[] args) {
        GraphRunner x = new GraphRunner();
        for (int s = 0; s < 20; s++) {
            int slot = s;
            Expect.answers("slot " + s + " is free", 0, () -> x.slot(slot, 0));
            Expect.fails("slot " + s + " holds nothing", Expect.MISSING, () -> x.get(slot, 0, 0));
        }
        Expect.answers("no node", 0, () -> x.count(0));
        Expect.answers("prepared", 1, () -> x.count(1));
        Expect.answers("prepare() has nothing to do", 0, x::prepare);
        for (int what = 2; what <= 5; what++) {
            int number = what;
            Expect.answers("count " + what, 0, () -> x.count(number));
        }
        for (int what = 10; what <= 23; what++) {
            int number = what;
            Expect.answers("order " + what, -1, () -> x.count(number));
        }
        Expect.fails("nothing to undo", Expect.MISSING, x::undo);
        Expect.answers("prepared still", 1, () -> x.count(1));

        GraphRunner other = new GraphRunner();
        other.table(0, 0, 1, 1, false);
        Expect.answers("objects share nothing", 0, () -> x.slot(0, 0));
        Expect.end();
    }
}
