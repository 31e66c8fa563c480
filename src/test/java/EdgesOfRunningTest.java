/** The boundary cases of RUNNING, sentence by sentence. */
final class EdgesOfRunningTest {
    public static void main(String[] args) {
        Expect.sentence("an INPUT, CONSTANT or FOLDED one is there", EdgesOfRunningTest::isThere);
        Expect.sentence("for another one its ARGUMENTS are, from the first on", EdgesOfRunningTest::fromTheFirstOn);
        Expect.sentence("(of a CHOICE: c, and then just the one that is chosen)", EdgesOfRunningTest::choice);
        Expect.sentence("unless they're KNOWN already", EdgesOfRunningTest::unlessKnown);
        Expect.sentence("then it's worked out, and KNOWN", EdgesOfRunningTest::thenKnown);
        Expect.sentence("What is thrown on the way ends it", EdgesOfRunningTest::thrownEndsIt);
        Expect.sentence("all that was KNOWN before staying so", EdgesOfRunningTest::knownBeforeStays);
        Expect.sentence("KNOWN ones stay until an INPUT is set", EdgesOfRunningTest::untilAnInputIsSet);
        Expect.sentence("As long as it isn't PREPARED nothing is KNOWN or FOLDED", EdgesOfRunningTest::notPrepared);
        Expect.end();
    }

    private static void counts(String what, GraphRunner x, int known, int worked, int thrown) {
        Expect.answers(what + ": known", known, () -> x.count(3));
        Expect.answers(what + ": worked out", worked, () -> x.count(4));
        Expect.answers(what + ": thrown in", thrown, () -> x.count(5));
    }

    private static void isThere() {
        GraphRunner x = new GraphRunner();
        Tables.feed(x, 0, false, Tables.floats(Tables.r(1)));
        Tables.feed(x, 1, true, Tables.floats(Tables.r(2)));
        x.node(5, 1, -1, -1, 2, 0, 0);
        x.node(0, 0, 2, -1, 3, 0, 0);
        x.prepare();
        for (int s = 0; s <= 2; s++) {
            int asked = s;
            Expect.answers("slot " + s, 0, () -> x.run(asked));
            Expect.answers("slot " + s + " again", 0, () -> x.run(asked));
        }
        counts("nothing was worked out", x, 0, 0, 0);
        Expect.answers("a folded argument is there", 1, () -> x.run(3));
        counts("just the one", x, 1, 1, 0);
    }

    /** Slot 2 divides by 0, slot 3 picks a row that isn't there, slots 4 and 5 are fine. */
    private static GraphRunner throwing() {
        GraphRunner x = new GraphRunner();
        Tables.feed(x, 0, false, Tables.ints(Tables.r(1)));
        Tables.feed(x, 1, false, Tables.ints(Tables.r(0)));
        x.node(3, 0, 1, -1, 2, 0, 0);
        x.node(15, 0, 0, -1, 3, 0, 0);
        x.node(6, 0, -1, -1, 4, 0, 0);
        x.node(6, 1, -1, -1, 5, 0, 0);
        return x;
    }

    private static void ends(String what, Class<?> due, int known, int op, int a, int b, int c) {
        GraphRunner x = throwing();
        x.node(op, a, b, c, 6, 0, 0);
        x.prepare();
        Expect.fails(what, due, () -> x.run(6));
        counts(what, x, known, known, 1);
    }

    private static void fromTheFirstOn() {
        ends("the first", Expect.ARITHMETIC, 0, 0, 2, 3, -1);
        ends("the first the other way round", Expect.INDEX, 0, 0, 3, 2, -1);
        ends("the second", Expect.ARITHMETIC, 1, 0, 4, 2, -1);
        ends("the first, the second not begun", Expect.ARITHMETIC, 0, 0, 2, 4, -1);
        ends("the first of three", Expect.ARITHMETIC, 0, 9, 2, 4, 3);
        ends("the second of three", Expect.INDEX, 1, 9, 4, 3, 2);
        ends("the third of three", Expect.ARITHMETIC, 2, 9, 4, 5, 2);
        ends("the third though a is the same twice", Expect.INDEX, 1, 9, 4, 4, 3);
    }

    private static void choice() {
        ends("c comes first", Expect.ARITHMETIC, 0, 17, 3, 3, 2);
        ends("c is known, then a", Expect.INDEX, 1, 17, 3, 5, 4);
        ends("c is known, then b", Expect.INDEX, 1, 17, 4, 3, 5);
        ends("c an input, then a", Expect.INDEX, 0, 17, 3, 4, 0);
        ends("c an input, then b", Expect.INDEX, 0, 17, 4, 3, 1);
        for (int c = 0; c <= 1; c++) {
            GraphRunner x = throwing();
            x.node(17, c == 0 ? 4 : 3, c == 0 ? 3 : 4, c, 6, 0, 0);
            x.prepare();
            Expect.answers("just the one that is chosen", 2, () -> x.run(6));
            Expect.answers("the one that is chosen", 1, () -> x.get(6, 0, 0));
            counts("just the one that is chosen", x, 2, 2, 0);
            Expect.fails("not the other", Expect.MISSING, () -> x.get(3, 0, 0));
        }
        GraphRunner both = throwing();
        both.node(17, 4, 5, 4, 6, 0, 0);
        both.prepare();
        Expect.answers("c is the chosen one", 2, () -> both.run(6));
        GraphRunner inside = throwing();
        inside.node(17, 3, 4, 5, 6, 0, 0);
        inside.node(17, 6, 2, 6, 7, 0, 0);
        inside.prepare();
        Expect.answers("a choice by a choice", 4, () -> inside.run(7));
        Expect.answers("a choice by a choice", 1, () -> inside.get(7, 0, 0));
    }

    private static void unlessKnown() {
        GraphRunner x = new GraphRunner();
        Tables.feed(x, 0, false, Tables.floats(Tables.r(1)));
        for (int n = 0; n < 14; n++) {
            x.node(0, n, n, -1, n + 1, 0, 0);
        }
        x.prepare();
        Expect.answers("half of them", 7, () -> x.run(7));
        Expect.answers("the others", 7, () -> x.run(14));
        counts("each once", x, 14, 14, 0);
        Expect.answers("known itself", 0, () -> x.run(14));
        Expect.answers("known below", 0, () -> x.run(3));
        counts("each once still", x, 14, 14, 0);
        Expect.answers("1 doubled fourteen times", 16384, () -> x.get(14, 0, 0));
    }

    private static void thenKnown() {
        GraphRunner x = new GraphRunner();
        Tables.feed(x, 0, false, Tables.floats(Tables.r(3, 4)));
        x.node(6, 0, -1, -1, 1, 0, 0);
        x.node(6, 1, -1, -1, 2, 0, 0);
        x.node(6, 0, -1, -1, 3, 0, 0);
        x.prepare();
        Expect.fails("not before", Expect.MISSING, () -> x.get(1, 0, 0));
        Expect.answers("two", 2, () -> x.run(2));
        Expect.holds("the argument", x, 1, 0, Expect.rows(Expect.of(3), Expect.of(4)));
        Expect.holds("the slot itself", x, 2, 0, Expect.row(3, 4));
        Expect.fails("not what isn't needed", Expect.MISSING, () -> x.get(3, 0, 0));
        Expect.answers("two are known", 2, () -> x.count(3));
    }

    private static void thrownEndsIt() {
        GraphRunner x = throwing();
        x.node(0, 2, 4, -1, 6, 0, 0);
        x.node(0, 6, 5, -1, 7, 0, 0);
        x.node(13, 7, 3, -1, 8, 0, 0);
        x.prepare();
        Expect.fails("deep below", Expect.ARITHMETIC, () -> x.run(8));
        counts("nothing behind it was begun", x, 0, 0, 1);
        for (int s = 2; s <= 8; s++) {
            int asked = s;
            Expect.fails("slot " + s, Expect.MISSING, () -> x.get(asked, 0, 0));
        }
        Expect.answers("prepared still", 1, () -> x.count(1));
        Expect.answers("another slot can be run for", 1, () -> x.run(4));
        Expect.fails("it ends so again", Expect.ARITHMETIC, () -> x.run(8));
        counts("twice by now", x, 1, 1, 2);
        x.set(1, 0, 0, 1);
        Expect.fails("further on", Expect.INDEX, () -> x.run(8));
        counts("further on", x, 5, 6, 3);
        x.set(0, 0, 0, 0);
        Expect.answers("to the end", 7, () -> x.run(8));
    }

    private static void knownBeforeStays() {
        GraphRunner x = throwing();
        x.node(0, 4, 4, -1, 6, 0, 0);
        x.node(13, 6, 5, -1, 7, 0, 0);
        x.node(13, 7, 2, -1, 8, 0, 0);
        x.prepare();
        x.run(4);
        Expect.fails("thrown in the last argument", Expect.ARITHMETIC, () -> x.run(8));
        counts("one before, three on the way", x, 4, 4, 1);
        Expect.answers("known before the call", 1, () -> x.get(4, 0, 0));
        Expect.answers("known on the way", 2, () -> x.get(6, 0, 0));
        Expect.answers("known on the way", 2, () -> x.get(7, 0, 0));
        Expect.answers("not worked out again", 0, () -> x.run(7));
        Expect.fails("thrown again", Expect.ARITHMETIC, () -> x.run(8));
        counts("nothing more worked out", x, 4, 4, 2);
    }

    private static void untilAnInputIsSet() {
        GraphRunner x = throwing();
        x.table(6, 0, 1, 1, false);
        x.table(7, 0, 1, 1, true);
        x.node(5, 7, -1, -1, 8, 0, 0);
        x.prepare();
        x.run(4);
        x.run(5);
        Expect.fails("a run that throws", Expect.ARITHMETIC, () -> x.run(2));
        Expect.works("prepare", x::prepare);
        Expect.fails("a refused table", Expect.BAD, () -> x.table(0, 0, 1, 1, false));
        Expect.fails("a refused set of an input", Expect.BAD, () -> x.set(0, 0, 0, 0.5));
        Expect.fails("a refused set of an input", Expect.BAD, () -> x.set(0, 0, 1, 1));
        Expect.fails("a refused set of an outcome", Expect.BAD, () -> x.set(4, 0, 0, 1));
        Expect.fails("a refused node", Expect.BAD, () -> x.node(19, 0, -1, -1, 9, 0, 0));
        Expect.answers("known through all that", 2, () -> x.count(3));
        x.set(6, 0, 0, 0);
        Expect.answers("an input that none needs, set to what it was", 0, () -> x.count(3));
        Expect.fails("slot 4", Expect.MISSING, () -> x.get(4, 0, 0));
        Expect.fails("slot 5", Expect.MISSING, () -> x.get(5, 0, 0));
        Expect.answers("prepared still", 1, () -> x.count(1));
        Expect.answers("folded still", 1, () -> x.count(2));
        Expect.answers("folded still", 0, () -> x.get(8, 0, 0));
        x.set(0, 0, 0, 9);
        Expect.answers("worked out anew", 1, () -> x.run(4));
        Expect.answers("from the new number", 9, () -> x.get(4, 0, 0));
    }

    private static void notPrepared() {
        for (int way = 0; way < 5; way++) {
            GraphRunner x = new GraphRunner();
            Tables.feed(x, 0, false, Tables.floats(Tables.r(1)));
            Tables.feed(x, 1, true, Tables.floats(Tables.r(2)));
            x.node(5, 0, -1, -1, 2, 0, 0);
            x.node(5, 1, -1, -1, 3, 0, 0);
            x.node(5, 0, -1, -1, 4, 0, 0);
            x.prepare();
            x.run(2);
            Expect.answers("known", 1, () -> x.count(3));
            Expect.answers("folded", 1, () -> x.count(2));
            unprepare(x, way);
            nothingKnown("way " + way, x);
            Expect.fails("run", Expect.STATE, () -> x.run(2));
            if (way < 4) {
                Expect.answers("prepared anew", 1, x::prepare);
                Expect.answers("nothing known anew", 0, () -> x.count(3));
                Expect.fails("not known anew", Expect.MISSING, () -> x.get(2, 0, 0));
            } else {
                Expect.fails("prepare throws", Expect.MISSING, x::prepare);
                nothingKnown("prepare threw", x);
            }
        }
    }

    private static void unprepare(GraphRunner x, int way) {
        switch (way) {
            case 0 -> x.table(9, 0, 1, 1, false);
            case 1 -> x.table(9, 0, 1, 1, true);
            case 2 -> x.set(1, 0, 0, 2);
            case 3 -> x.undo();
            default -> x.node(5, 9, -1, -1, 10, 0, 0);
        }
    }

    private static void nothingKnown(String what, GraphRunner x) {
        Expect.answers(what + ": not prepared", 0, () -> x.count(1));
        Expect.answers(what + ": nothing folded", 0, () -> x.count(2));
        Expect.answers(what + ": nothing known", 0, () -> x.count(3));
        Expect.fails(what + ": slot 2", Expect.MISSING, () -> x.get(2, 0, 0));
        Expect.fails(what + ": slot 3", Expect.MISSING, () -> x.get(3, 0, 0));
        Expect.answers(what + ": the input is there", 1, () -> x.get(0, 0, 0));
        Expect.answers(what + ": the constant is there", 2, () -> x.get(1, 0, 0));
    }
}
