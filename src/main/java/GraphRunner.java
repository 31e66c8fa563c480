import java.util.NoSuchElementException;

/**
 * Runs graphs of operators on small tables of numbers. Words in capitals in the document stand here
 * in small letters: a slot holds a table or the outcome of a node, a node is an operator at work.
 */
public final class GraphRunner {
    private static final int SLOTS = 20;
    private static final int MOST_NODES = 14;
    private static final int MOST_ARGUMENTS = 3;
    private static final int LONGEST_SIDE = 4;
    private static final int LARGEST_SET = 1000;
    private static final int LARGEST_GIVEN = 1000000000;
    private static final int LARGEST_NUMBER = 8;
    private static final int FIRST_OF_ORDER = 10;
    private static final int NONE = -1;

    private static final int FLOAT = 0;
    private static final int INT = 1;

    private static final int FREE = 0;
    private static final int INPUT = 1;
    private static final int CONSTANT = 2;
    private static final int OUTCOME = 3;

    private static final int ADD = 0;
    private static final int SUBTRACT = 1;
    private static final int MULTIPLY = 2;
    private static final int DIVIDE = 3;
    private static final int PRODUCT = 4;
    private static final int POSITIVE = 5;
    private static final int TURN = 6;
    private static final int CAST = 7;
    private static final int LESS = 8;
    private static final int WHERE = 9;
    private static final int SUM = 10;
    private static final int GREATEST = 11;
    private static final int FIRST_GREATEST = 12;
    private static final int JOIN = 13;
    private static final int CUT = 14;
    private static final int PICK = 15;
    private static final int SLIDE = 16;
    private static final int CHOICE = 17;
    private static final int BOUND = 18;
    private static final int[] ARGUMENT_COUNTS = {2, 2, 2, 2, 2, 1, 1, 1, 2, 3, 1, 1, 1, 2, 1, 2, 2, 3, 1};

    // How the working out of a node ends: folding passes over what running throws.
    private static final int FINE = 0;
    private static final int NOT_RECKONED = 1;
    private static final int NO_SUCH_ROW = 2;

    private final Slot[] slots = new Slot[SLOTS];
    private final Node[] nodes = new Node[MOST_NODES];
    private final int[] order = new int[MOST_NODES];
    private final int[] opened = new int[MOST_NODES];
    // Stands for the arguments that an operator doesn't have, so that no reference is ever null.
    private final Table noTable = new Table();
    private int nodeCount = 0;
    private boolean prepared = true;
    private int workedInAll = 0;
    private int thrownInAll = 0;

    public GraphRunner() {
        for (int s = 0; s < SLOTS; s++) {
            slots[s] = new Slot();
        }
        for (int n = 0; n < MOST_NODES; n++) {
            nodes[n] = new Node();
        }
    }

    public void table(int s, int type, int rows, int columns, boolean constant) throws IllegalArgumentException {
        if (!isFree(s) || !isType(type) || !isSide(rows) || !isSide(columns)) {
            throw new IllegalArgumentException();
        }
        slots[s].kind = constant ? CONSTANT : INPUT;
        slots[s].table.shape(type, rows, columns);
        slots[s].table.clear();
        unprepare();
    }

    public void set(int s, int i, int j, double v) throws IllegalArgumentException {
        if (!isSlot(s) || !isFed(s) || !slots[s].table.has(i, j) || !isSettable(slots[s].table.type, v)) {
            throw new IllegalArgumentException();
        }
        slots[s].table.put(i, j, slots[s].table.type == INT ? (int) v : v);
        if (slots[s].kind == CONSTANT) {
            unprepare();
        } else {
            forgetKnown();
        }
    }

    public int node(int op, int a, int b, int c, int out, int p, int q)
            throws IllegalArgumentException, IllegalStateException {
        if (op < ADD || op > BOUND || !areArguments(ARGUMENT_COUNTS[op], a, b, c)
                || !isFree(out) || !isNumber(p) || !isNumber(q)) {
            throw new IllegalArgumentException();
        }
        if (nodeCount >= MOST_NODES) {
            throw new IllegalStateException();
        }
        nodes[nodeCount].become(op, out, p, q);
        nodes[nodeCount].takeArguments(a, b, c);
        slots[out].kind = OUTCOME;
        slots[out].maker = nodeCount;
        nodeCount++;
        unprepare();
        return nodeCount - 1;
    }

    public void undo() throws NoSuchElementException {
        if (nodeCount == 0) {
            throw new NoSuchElementException();
        }
        unprepare();
        nodeCount--;
        slots[nodes[nodeCount].out].kind = FREE;
    }

    public int prepare() throws NoSuchElementException, UnsupportedOperationException {
        if (!prepared) {
            if (!orderNodes()) {
                throw new NoSuchElementException();
            }
            if (!findShapes()) {
                throw new UnsupportedOperationException();
            }
            foldNodes();
            prepared = true;
        }
        return foldedCount();
    }

    public int run(int s)
            throws IllegalArgumentException, IllegalStateException, ArithmeticException, IndexOutOfBoundsException {
        if (!isSlot(s) || slots[s].kind == FREE) {
            throw new IllegalArgumentException();
        }
        if (!prepared) {
            throw new IllegalStateException();
        }
        int workedBefore = workedInAll;
        int end = runFor(s);
        if (end == NOT_RECKONED) {
            throw new ArithmeticException();
        }
        if (end == NO_SUCH_ROW) {
            throw new IndexOutOfBoundsException();
        }
        return workedInAll - workedBefore;
    }

    public double get(int s, int i, int j) throws IllegalArgumentException, NoSuchElementException {
        if (!isSlot(s)) {
            throw new IllegalArgumentException();
        }
        if (!isThere(s) || !slots[s].table.has(i, j)) {
            throw new NoSuchElementException();
        }
        return slots[s].table.at(i, j);
    }

    public int slot(int s, int what) throws IllegalArgumentException, NoSuchElementException {
        if (!isSlot(s) || what < 0 || what > 3) {
            throw new IllegalArgumentException();
        }
        if (what == 0) {
            return slots[s].kind;
        }
        if (!isFed(s) && !(slots[s].kind == OUTCOME && prepared)) {
            throw new NoSuchElementException();
        }
        Table table = slots[s].table;
        return what == 1 ? table.type : what == 2 ? table.rows : table.columns;
    }

    public int count(int what) {
        switch (what) {
            case 0:
                return nodeCount;
            case 1:
                return prepared ? 1 : 0;
            case 2:
                return foldedCount();
            case 3:
                return knownCount();
            case 4:
                return workedInAll;
            case 5:
                return thrownInAll;
            default:
                return inOrder(what);
        }
    }

    private int inOrder(int what) {
        if (!prepared || what < FIRST_OF_ORDER || what >= FIRST_OF_ORDER + nodeCount) {
            return NONE;
        }
        return order[what - FIRST_OF_ORDER];
    }

    private static boolean isSlot(int s) {
        return s >= 0 && s < SLOTS;
    }

    private static boolean isType(int type) {
        return type == FLOAT || type == INT;
    }

    private static boolean isSide(int length) {
        return length >= 1 && length <= LONGEST_SIDE;
    }

    private static boolean isNumber(int number) {
        return number >= -LARGEST_NUMBER && number <= LARGEST_NUMBER;
    }

    private static boolean isSettable(int type, double v) {
        // Asked this way round, what is no number at all is out of range too.
        boolean inRange = v >= -LARGEST_SET && v <= LARGEST_SET;
        return inRange && (type == FLOAT || v == (int) v);
    }

    private static boolean areArguments(int argumentCount, int a, int b, int c) {
        return isSlot(a)
                && (argumentCount >= 2 ? isSlot(b) : b == NONE)
                && (argumentCount >= 3 ? isSlot(c) : c == NONE);
    }

    private boolean isFree(int s) {
        return isSlot(s) && slots[s].kind == FREE;
    }

    private boolean isFed(int s) {
        return slots[s].kind == INPUT || slots[s].kind == CONSTANT;
    }

    private boolean isOrdered(int s) {
        return isFed(s) || (slots[s].kind == OUTCOME && nodes[slots[s].maker].ordered);
    }

    private boolean isConstantOrFolded(int s) {
        return slots[s].kind == CONSTANT || (slots[s].kind == OUTCOME && nodes[slots[s].maker].folded);
    }

    private boolean isThere(int s) {
        return isFed(s) || (slots[s].kind == OUTCOME && nodes[slots[s].maker].hasOutcome());
    }

    private void unprepare() {
        prepared = false;
        forgetKnown();
        for (int n = 0; n < nodeCount; n++) {
            nodes[n].folded = false;
        }
    }

    private void forgetKnown() {
        for (int n = 0; n < nodeCount; n++) {
            nodes[n].known = false;
        }
    }

    private int foldedCount() {
        int found = 0;
        for (int n = 0; n < nodeCount; n++) {
            found += nodes[n].folded ? 1 : 0;
        }
        return found;
    }

    private int knownCount() {
        int found = 0;
        for (int n = 0; n < nodeCount; n++) {
            found += nodes[n].known ? 1 : 0;
        }
        return found;
    }

    /** Answers false if nodes are left over. */
    private boolean orderNodes() {
        for (int n = 0; n < nodeCount; n++) {
            nodes[n].ordered = false;
        }
        for (int place = 0; place < nodeCount; place++) {
            int next = leastToOrder();
            if (next == NONE) {
                return false;
            }
            order[place] = next;
            nodes[next].ordered = true;
        }
        return true;
    }

    private int leastToOrder() {
        for (int n = 0; n < nodeCount; n++) {
            if (!nodes[n].ordered && argumentsAreOrdered(nodes[n])) {
                return n;
            }
        }
        return NONE;
    }

    private boolean argumentsAreOrdered(Node node) {
        for (int k = 0; k < node.argumentCount; k++) {
            if (!isOrdered(node.arguments[k])) {
                return false;
            }
        }
        return true;
    }

    /** Answers false if a node is unfit. */
    private boolean findShapes() {
        for (int place = 0; place < nodeCount; place++) {
            Node node = nodes[order[place]];
            Table out = slots[node.out].table;
            if (!Shapes.find(node, argument(node, 0), argument(node, 1), argument(node, 2), out)) {
                return false;
            }
        }
        return true;
    }

    private void foldNodes() {
        for (int place = 0; place < nodeCount; place++) {
            Node node = nodes[order[place]];
            node.folded = argumentsAreFolded(node) && workOut(node) == FINE;
        }
    }

    private boolean argumentsAreFolded(Node node) {
        for (int k = 0; k < node.argumentCount; k++) {
            if (!isConstantOrFolded(node.arguments[k])) {
                return false;
            }
        }
        return true;
    }

    private Table argument(Node node, int k) {
        return k < node.argumentCount ? slots[node.arguments[k]].table : noTable;
    }

    private int workOut(Node node) {
        Table out = slots[node.out].table;
        int end = Work.workOut(node, argument(node, 0), argument(node, 1), argument(node, 2), out);
        return end == FINE && out.isTooLarge() ? NOT_RECKONED : end;
    }

    /** Answers how it ended; what was known before something was thrown stays known. */
    private int runFor(int s) {
        int open = 0;
        if (!isThere(s)) {
            opened[open++] = slots[s].maker;
        }
        // Each step opens a node or ends one, and what is in order is never opened twice.
        for (int step = 0; step < 2 * MOST_NODES && open > 0; step++) {
            Node node = nodes[opened[open - 1]];
            int needed = firstNeeded(node);
            if (needed == NONE) {
                int end = learn(node);
                if (end != FINE) {
                    return end;
                }
                open--;
            } else if (open < MOST_NODES) {
                opened[open++] = slots[needed].maker;
            }
        }
        return FINE;
    }

    private int learn(Node node) {
        int end = workOut(node);
        if (end == FINE) {
            node.known = true;
            workedInAll++;
        } else {
            thrownInAll++;
        }
        return end;
    }

    private int firstNeeded(Node node) {
        if (node.op == CHOICE) {
            return firstNeededByChoice(node);
        }
        for (int k = 0; k < node.argumentCount; k++) {
            if (!isThere(node.arguments[k])) {
                return node.arguments[k];
            }
        }
        return NONE;
    }

    private int firstNeededByChoice(Node node) {
        int chooser = node.arguments[2];
        if (!isThere(chooser)) {
            return chooser;
        }
        int chosen = node.arguments[slots[chooser].table.isZero() ? 1 : 0];
        return isThere(chosen) ? NONE : chosen;
    }

    private static final class Slot {
        private final Table table = new Table();
        private int kind = FREE;
        private int maker = 0;
    }

    private static final class Node {
        private final int[] arguments = new int[MOST_ARGUMENTS];
        private int argumentCount = 0;
        private int op = ADD;
        private int out = 0;
        private int p = 0;
        private int q = 0;
        private boolean ordered = false;
        private boolean folded = false;
        private boolean known = false;

        private void become(int newOp, int newOut, int newP, int newQ) {
            op = newOp;
            out = newOut;
            p = newP;
            q = newQ;
            argumentCount = ARGUMENT_COUNTS[newOp];
        }

        private void takeArguments(int a, int b, int c) {
            arguments[0] = a;
            arguments[1] = b;
            arguments[2] = c;
        }

        private boolean hasOutcome() {
            return known || folded;
        }
    }

    /** Holds ints as doubles too: each int is one exactly, and most operators needn't tell them apart. */
    private static final class Table {
        private final double[] cells = new double[LONGEST_SIDE * LONGEST_SIDE];
        private int type = FLOAT;
        private int rows = 1;
        private int columns = 1;

        /** Answers false, and changes nothing, if a side is too short or too long. */
        private boolean shape(int newType, int newRows, int newColumns) {
            if (!isSide(newRows) || !isSide(newColumns)) {
                return false;
            }
            type = newType;
            rows = newRows;
            columns = newColumns;
            return true;
        }

        private void clear() {
            for (int k = 0; k < cells.length; k++) {
                cells[k] = 0.0;
            }
        }

        private boolean has(int i, int j) {
            return i >= 0 && i < rows && j >= 0 && j < columns;
        }

        private double at(int i, int j) {
            return cells[i * LONGEST_SIDE + j];
        }

        private double atAgain(int i, int j) {
            return cells[(rows == 1 ? 0 : i) * LONGEST_SIDE + (columns == 1 ? 0 : j)];
        }

        private void put(int i, int j, double v) {
            cells[i * LONGEST_SIDE + j] = v;
        }

        private boolean isZero() {
            return at(0, 0) == 0.0;
        }

        private boolean isTooLarge() {
            for (int i = 0; i < rows && type == FLOAT; i++) {
                for (int j = 0; j < columns; j++) {
                    if (at(i, j) > LARGEST_GIVEN || at(i, j) < -LARGEST_GIVEN) {
                        return true;
                    }
                }
            }
            return false;
        }
    }

    /** Finds the type and shape of a node's outcome from those of its arguments. */
    private static final class Shapes {
        /** Answers false if the node is unfit. */
        private static boolean find(Node node, Table a, Table b, Table c, Table out) {
            switch (node.op) {
                case ADD:
                case SUBTRACT:
                case MULTIPLY:
                case DIVIDE:
                    return a.type == b.type && fit(a, b, a.type, out);
                case PRODUCT:
                    return areFloats(a, b) && a.columns == b.rows && out.shape(FLOAT, a.rows, b.columns);
                case POSITIVE:
                case BOUND:
                    return a.type == FLOAT && out.shape(FLOAT, a.rows, a.columns);
                case TURN:
                    return out.shape(a.type, a.columns, a.rows);
                case CAST:
                    return isType(node.p) && out.shape(node.p, a.rows, a.columns);
                case LESS:
                    return a.type == b.type && fit(a, b, INT, out);
                case WHERE:
                    return c.type == INT && a.type == b.type && fit(a, b, a.type, out) && fit(out, c, a.type, out);
                case SUM:
                case GREATEST:
                    return findGathered(node.p, a, out);
                case FIRST_GREATEST:
                    return out.shape(INT, a.rows, 1);
                case JOIN:
                    return a.type == b.type && findJoined(node.p, a, b, out);
                case CUT:
                    return node.p >= 0 && node.p <= node.q && node.q < a.rows
                            && out.shape(a.type, node.q - node.p + 1, a.columns);
                case PICK:
                    return b.type == INT && b.rows == 1 && out.shape(a.type, b.columns, a.columns);
                case SLIDE:
                    return areFloats(a, b) && b.rows == 1 && findSlid(node, a, b, out);
                case CHOICE:
                    return c.type == INT && c.rows == 1 && c.columns == 1 && areAlike(a, b)
                            && out.shape(a.type, a.rows, a.columns);
                default:
                    return false;
            }
        }

        private static boolean areFloats(Table a, Table b) {
            return a.type == FLOAT && b.type == FLOAT;
        }

        private static boolean areAlike(Table a, Table b) {
            return a.type == b.type && a.rows == b.rows && a.columns == b.columns;
        }

        private static boolean fit(Table a, Table b, int type, Table out) {
            return sidesFit(a.rows, b.rows) && sidesFit(a.columns, b.columns)
                    && out.shape(type, Math.max(a.rows, b.rows), Math.max(a.columns, b.columns));
        }

        private static boolean sidesFit(int one, int other) {
            return one == other || one == 1 || other == 1;
        }

        private static boolean findGathered(int p, Table a, Table out) {
            if (p == 0) {
                return out.shape(a.type, 1, a.columns);
            }
            return p == 1 && out.shape(a.type, a.rows, 1);
        }

        private static boolean findJoined(int p, Table a, Table b, Table out) {
            if (p == 0) {
                return a.columns == b.columns && out.shape(a.type, a.rows + b.rows, a.columns);
            }
            return p == 1 && a.rows == b.rows && out.shape(a.type, a.rows, a.columns + b.columns);
        }

        private static boolean findSlid(Node node, Table a, Table b, Table out) {
            if (node.p < 1 || node.p > 2 || node.q < 0 || node.q > 2) {
                return false;
            }
            int room = a.columns + 2 * node.q - b.columns;
            return room >= 0 && out.shape(FLOAT, a.rows, room / node.p + 1);
        }
    }

    /** Works out nodes whose arguments are there and whose outcome has its type and shape. */
    private static final class Work {
        /** Answers how it ended; looks for no number that is too large. */
        private static int workOut(Node node, Table a, Table b, Table c, Table out) {
            switch (node.op) {
                case DIVIDE:
                    return divide(a, b, out);
                case PICK:
                    return pick(a, b, out);
                case PRODUCT:
                    multiplyTables(a, b, out);
                    break;
                case TURN:
                    turn(a, out);
                    break;
                case WHERE:
                    chooseEach(a, b, c, out);
                    break;
                case SUM:
                    sum(node.p, a, out);
                    break;
                case GREATEST:
                    greatest(node.p, a, out);
                    break;
                case FIRST_GREATEST:
                    firstGreatest(a, out);
                    break;
                case JOIN:
                    copy(a, out, 0, 0);
                    copy(b, out, node.p == 0 ? a.rows : 0, node.p == 0 ? 0 : a.columns);
                    break;
                case CUT:
                    cut(node.p, a, out);
                    break;
                case SLIDE:
                    slide(node, a, b, out);
                    break;
                case CHOICE:
                    copy(c.isZero() ? b : a, out, 0, 0);
                    break;
                case POSITIVE:
                case CAST:
                case BOUND:
                    workEach(node, a, out);
                    break;
                default:
                    pair(node.op, a, b, out);
                    break;
            }
            return FINE;
        }

        private static void pair(int op, Table a, Table b, Table out) {
            for (int i = 0; i < out.rows; i++) {
                for (int j = 0; j < out.columns; j++) {
                    double x = a.atAgain(i, j);
                    double y = b.atAgain(i, j);
                    out.put(i, j, a.type == INT ? pairInts(op, (int) x, (int) y) : pairFloats(op, x, y));
                }
            }
        }

        private static int pairInts(int op, int x, int y) {
            switch (op) {
                case ADD:
                    return x + y;
                case SUBTRACT:
                    return x - y;
                case MULTIPLY:
                    return x * y;
                default:
                    return x < y ? 1 : 0;
            }
        }

        private static double pairFloats(int op, double x, double y) {
            switch (op) {
                case ADD:
                    return x + y;
                case SUBTRACT:
                    return x - y;
                case MULTIPLY:
                    return x * y;
                default:
                    return x < y ? 1.0 : 0.0;
            }
        }

        private static int divide(Table a, Table b, Table out) {
            for (int i = 0; i < out.rows; i++) {
                for (int j = 0; j < out.columns; j++) {
                    double x = a.atAgain(i, j);
                    double y = b.atAgain(i, j);
                    if (y == 0.0) {
                        return NOT_RECKONED;
                    }
                    out.put(i, j, a.type == INT ? divideInts((int) x, (int) y) : x / y);
                }
            }
            return FINE;
        }

        private static int divideInts(int x, int y) {
            // Looked at here once more, so that these lines alone show that nothing is thrown.
            return y == 0 ? 0 : x / y;
        }

        private static void multiplyTables(Table a, Table b, Table out) {
            for (int i = 0; i < out.rows; i++) {
                for (int j = 0; j < out.columns; j++) {
                    double total = 0.0;
                    for (int k = 0; k < a.columns; k++) {
                        total = total + a.at(i, k) * b.at(k, j);
                    }
                    out.put(i, j, total);
                }
            }
        }

        private static void workEach(Node node, Table a, Table out) {
            for (int i = 0; i < out.rows; i++) {
                for (int j = 0; j < out.columns; j++) {
                    out.put(i, j, ofOne(node, a.at(i, j)));
                }
            }
        }

        private static double ofOne(Node node, double x) {
            switch (node.op) {
                case POSITIVE:
                    return x > 0.0 ? x : 0.0;
                case CAST:
                    return node.p == INT ? (int) x : x;
                default:
                    return x < node.p ? node.p : x > node.q ? node.q : x;
            }
        }

        private static void turn(Table a, Table out) {
            for (int i = 0; i < out.rows; i++) {
                for (int j = 0; j < out.columns; j++) {
                    out.put(i, j, a.at(j, i));
                }
            }
        }

        private static void chooseEach(Table a, Table b, Table c, Table out) {
            for (int i = 0; i < out.rows; i++) {
                for (int j = 0; j < out.columns; j++) {
                    out.put(i, j, c.atAgain(i, j) != 0.0 ? a.atAgain(i, j) : b.atAgain(i, j));
                }
            }
        }

        private static void sum(int p, Table a, Table out) {
            for (int i = 0; i < out.rows; i++) {
                for (int j = 0; j < out.columns; j++) {
                    out.put(i, j, 0.0);
                }
            }
            for (int i = 0; i < a.rows; i++) {
                for (int j = 0; j < a.columns; j++) {
                    int row = p == 0 ? 0 : i;
                    int column = p == 0 ? j : 0;
                    double total = out.at(row, column);
                    double x = a.at(i, j);
                    out.put(row, column, a.type == INT ? pairInts(ADD, (int) total, (int) x) : total + x);
                }
            }
        }

        private static void greatest(int p, Table a, Table out) {
            for (int i = 0; i < a.rows; i++) {
                for (int j = 0; j < a.columns; j++) {
                    int row = p == 0 ? 0 : i;
                    int column = p == 0 ? j : 0;
                    boolean isFirst = p == 0 ? i == 0 : j == 0;
                    if (isFirst || a.at(i, j) > out.at(row, column)) {
                        out.put(row, column, a.at(i, j));
                    }
                }
            }
        }

        private static void firstGreatest(Table a, Table out) {
            for (int i = 0; i < a.rows; i++) {
                int found = 0;
                for (int j = 1; j < a.columns; j++) {
                    if (a.at(i, j) > a.at(i, found)) {
                        found = j;
                    }
                }
                out.put(i, 0, found);
            }
        }

        private static void copy(Table from, Table out, int firstRow, int firstColumn) {
            for (int i = 0; i < from.rows; i++) {
                for (int j = 0; j < from.columns; j++) {
                    out.put(firstRow + i, firstColumn + j, from.at(i, j));
                }
            }
        }

        private static void cut(int firstRow, Table a, Table out) {
            for (int i = 0; i < out.rows; i++) {
                copyRow(a, firstRow + i, out, i);
            }
        }

        private static int pick(Table a, Table b, Table out) {
            for (int i = 0; i < out.rows; i++) {
                int named = (int) b.at(0, i);
                int row = named < 0 ? a.rows + named : named;
                if (!a.has(row, 0)) {
                    return NO_SUCH_ROW;
                }
                copyRow(a, row, out, i);
            }
            return FINE;
        }

        private static void copyRow(Table from, int row, Table out, int outRow) {
            for (int j = 0; j < from.columns; j++) {
                out.put(outRow, j, from.at(row, j));
            }
        }

        private static void slide(Node node, Table a, Table b, Table out) {
            for (int i = 0; i < out.rows; i++) {
                for (int j = 0; j < out.columns; j++) {
                    double total = 0.0;
                    for (int k = 0; k < b.columns; k++) {
                        int column = j * node.p + k - node.q;
                        total = total + (a.has(i, column) ? a.at(i, column) : 0.0) * b.at(0, k);
                    }
                    out.put(i, j, total);
                }
            }
        }
    }
}
