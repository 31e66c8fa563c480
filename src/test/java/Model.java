import java.util.ArrayList;
import java.util.HashMap;
import java.util.List;
import java.util.Map;
import java.util.NoSuchElementException;

/**
 * The document once more, written for plainness and unlike the class: boxed numbers, maps, recursion
 * and exceptions. An Integer is an INT, a Double a FLOAT.
 */
final class Model {
    private record Node(int op, List<Integer> arguments, int out, int p, int q) {
    }

    private record Kind(boolean isInt, int rows, int columns) {
    }

    private final Map<Integer, Object[][]> fed = new HashMap<>();
    private final Map<Integer, Boolean> constant = new HashMap<>();
    private final List<Node> nodes = new ArrayList<>();
    private boolean prepared = true;
    private final List<Integer> order = new ArrayList<>();
    private final Map<Integer, Kind> kinds = new HashMap<>();
    private final Map<Integer, Object[][]> folded = new HashMap<>();
    private final Map<Integer, Object[][]> known = new HashMap<>();
    private int worked = 0;
    private int thrown = 0;

    private static void bad(boolean isBad) {
        if (isBad) {
            throw new IllegalArgumentException();
        }
    }

    private static void missing(boolean isMissing) {
        if (isMissing) {
            throw new NoSuchElementException();
        }
    }

    private static boolean outside(int n, int from, int to) {
        return n < from || n > to;
    }

    private Node maker(int s) {
        for (Node node : nodes) {
            if (node.out == s) {
                return node;
            }
        }
        return null;
    }

    private boolean free(int s) {
        return !fed.containsKey(s) && maker(s) == null;
    }

    private void unprepare() {
        prepared = false;
        order.clear();
        kinds.clear();
        folded.clear();
        known.clear();
    }

    void table(int s, int type, int rows, int columns, boolean isConstant) {
        bad(outside(s, 0, 19) || !free(s));
        bad(outside(type, 0, 1) || outside(rows, 1, 4) || outside(columns, 1, 4));
        Object[][] cells = new Object[rows][columns];
        for (Object[] row : cells) {
            java.util.Arrays.fill(row, type == 1 ? (Object) 0 : (Object) 0.0);
        }
        fed.put(s, cells);
        constant.put(s, isConstant);
        unprepare();
    }

    void set(int s, int i, int j, double v) {
        Object[][] cells = fed.get(s);
        bad(cells == null);
        bad(outside(i, 0, cells.length - 1) || outside(j, 0, cells[0].length - 1));
        bad(Double.isNaN(v) || Math.abs(v) > 1000);
        bad(cells[i][j] instanceof Integer && v != Math.rint(v));
        cells[i][j] = cells[i][j] instanceof Integer ? (Object) (int) v : (Object) v;
        known.clear();
        if (constant.get(s)) {
            unprepare();
        }
    }

    int node(int op, int a, int b, int c, int out, int p, int q) {
        bad(outside(op, 0, 18));
        int has = "0 1 2 3 4 8 13 15 16".matches("(.* )?" + op + "( .*)?") ? 2 : op == 9 || op == 17 ? 3 : 1;
        int[] given = {a, b, c};
        List<Integer> arguments = new ArrayList<>();
        for (int k = 0; k < 3; k++) {
            bad(k < has ? outside(given[k], 0, 19) : given[k] != -1);
            if (k < has) {
                arguments.add(given[k]);
            }
        }
        bad(outside(out, 0, 19) || !free(out) || outside(p, -8, 8) || outside(q, -8, 8));
        if (nodes.size() == 14) {
            throw new IllegalStateException();
        }
        nodes.add(new Node(op, arguments, out, p, q));
        unprepare();
        return nodes.size() - 1;
    }

    void undo() {
        missing(nodes.isEmpty());
        nodes.remove(nodes.size() - 1);
        unprepare();
    }

    int prepare() {
        if (prepared) {
            return folded.size();
        }
        unprepare();
        List<Integer> placed = new ArrayList<>();
        Map<Integer, Kind> found = new HashMap<>();
        fed.forEach((s, cells) -> found.put(s, kindOf(cells)));
        List<Integer> done = new ArrayList<>(fed.keySet());
        while (placed.size() < nodes.size()) {
            int least = 0;
            while (least < nodes.size()
                    && (placed.contains(least) || !done.containsAll(nodes.get(least).arguments))) {
                least++;
            }
            missing(least == nodes.size());
            placed.add(least);
            done.add(nodes.get(least).out);
        }
        for (int n : placed) {
            Node node = nodes.get(n);
            List<Kind> given = new ArrayList<>();
            node.arguments.forEach(s -> given.add(found.get(s)));
            Kind kind = kind(node, given);
            if (kind == null || outside(kind.rows, 1, 4) || outside(kind.columns, 1, 4)) {
                throw new UnsupportedOperationException();
            }
            found.put(node.out, kind);
        }
        kinds.putAll(found);
        order.addAll(placed);
        for (int n : placed) {
            fold(nodes.get(n));
        }
        prepared = true;
        return folded.size();
    }

    private void fold(Node node) {
        for (int s : node.arguments) {
            if (!constant.getOrDefault(s, false) && !folded.containsKey(s)) {
                return;
            }
        }
        try {
            folded.put(node.out, work(node));
        } catch (ArithmeticException | IndexOutOfBoundsException e) {
            folded.remove(node.out);
        }
    }

    int run(int s) {
        bad(outside(s, 0, 19) || free(s));
        if (!prepared) {
            throw new IllegalStateException();
        }
        int before = worked;
        need(s);
        return worked - before;
    }

    private void need(int s) {
        if (there(s) != null) {
            return;
        }
        Node node = maker(s);
        if (node.op == 17) {
            need(node.arguments.get(2));
            need(node.arguments.get(((Integer) there(node.arguments.get(2))[0][0]) != 0 ? 0 : 1));
        } else {
            node.arguments.forEach(this::need);
        }
        thrown++;
        known.put(s, work(node));
        thrown--;
        worked++;
    }

    private Object[][] there(int s) {
        return fed.containsKey(s) ? fed.get(s) : folded.containsKey(s) ? folded.get(s) : known.get(s);
    }

    double get(int s, int i, int j) {
        bad(outside(s, 0, 19));
        Object[][] cells = there(s);
        missing(cells == null || outside(i, 0, cells.length - 1) || outside(j, 0, cells[0].length - 1));
        return ((Number) cells[i][j]).doubleValue();
    }

    int slot(int s, int what) {
        bad(outside(s, 0, 19) || outside(what, 0, 3));
        if (what == 0) {
            return fed.containsKey(s) ? (constant.get(s) ? 2 : 1) : maker(s) != null ? 3 : 0;
        }
        Kind kind = fed.containsKey(s) ? kindOf(fed.get(s)) : kinds.get(s);
        missing(kind == null);
        return what == 1 ? (kind.isInt ? 1 : 0) : what == 2 ? kind.rows : kind.columns;
    }

    int count(int what) {
        int[] counts = {nodes.size(), prepared ? 1 : 0, folded.size(), known.size(), worked, thrown};
        if (what >= 0 && what < counts.length) {
            return counts[what];
        }
        return what >= 10 && what < 10 + order.size() ? order.get(what - 10) : -1;
    }

    /** For the test alone: which op the outcome in slot s comes from. */
    int opOf(int s) {
        return maker(s).op;
    }

    private static Kind kindOf(Object[][] cells) {
        return new Kind(cells[0][0] instanceof Integer, cells.length, cells[0].length);
    }

    private static Kind fitted(Kind a, Kind b, boolean isInt) {
        boolean fits = (a.rows == b.rows || Math.min(a.rows, b.rows) == 1)
                && (a.columns == b.columns || Math.min(a.columns, b.columns) == 1);
        return fits ? new Kind(isInt, Math.max(a.rows, b.rows), Math.max(a.columns, b.columns)) : null;
    }

    private static Kind kind(Node node, List<Kind> given) {
        Kind a = given.get(0);
        Kind b = given.size() > 1 ? given.get(1) : a;
        Kind c = given.size() > 2 ? given.get(2) : null;
        boolean same = a.isInt == b.isInt;
        boolean byRows = node.p == 0;
        boolean pIsZeroOrOne = node.p == 0 || node.p == 1;
        switch (node.op) {
            case 0, 1, 2, 3: return same ? fitted(a, b, a.isInt) : null;
            case 4: return !a.isInt && !b.isInt && a.columns == b.rows ? new Kind(false, a.rows, b.columns) : null;
            case 5, 18: return a.isInt ? null : a;
            case 6: return new Kind(a.isInt, a.columns, a.rows);
            case 7: return pIsZeroOrOne ? new Kind(node.p == 1, a.rows, a.columns) : null;
            case 8: return same ? fitted(a, b, true) : null;
            case 9: {
                Kind both = c.isInt && same ? fitted(a, b, a.isInt) : null;
                return both == null ? null : fitted(both, c, a.isInt);
            }
            case 10, 11:
                return !pIsZeroOrOne ? null : byRows ? new Kind(a.isInt, 1, a.columns) : new Kind(a.isInt, a.rows, 1);
            case 12: return new Kind(true, a.rows, 1);
            case 13:
                if (!same || !pIsZeroOrOne || (byRows ? a.columns != b.columns : a.rows != b.rows)) {
                    return null;
                }
                return byRows ? new Kind(a.isInt, a.rows + b.rows, a.columns)
                        : new Kind(a.isInt, a.rows, a.columns + b.columns);
            case 14:
                return node.p < 0 || node.q >= a.rows || node.q < node.p ? null
                        : new Kind(a.isInt, node.q - node.p + 1, a.columns);
            case 15: return b.isInt && b.rows == 1 ? new Kind(a.isInt, b.columns, a.columns) : null;
            case 16: {
                if (a.isInt || b.isInt || b.rows != 1 || outside(node.p, 1, 2) || outside(node.q, 0, 2)) {
                    return null;
                }
                int begins = 0;
                for (int from = 0; from + b.columns <= a.columns + 2 * node.q; from += node.p) {
                    begins++;
                }
                return new Kind(false, a.rows, begins);
            }
            default: return c.equals(new Kind(true, 1, 1)) && a.equals(b) ? a : null;
        }
    }

    private static Object at(Object[][] cells, int i, int j) {
        return cells[cells.length == 1 ? 0 : i][cells[0].length == 1 ? 0 : j];
    }

    private Object[][] work(Node node) {
        Kind kind = kinds.get(node.out);
        Object[][] out = new Object[kind.rows][kind.columns];
        for (int i = 0; i < kind.rows; i++) {
            for (int j = 0; j < kind.columns; j++) {
                out[i][j] = cell(node, i, j);
                if (out[i][j] instanceof Double d && Math.abs(d) > 1e9) {
                    throw new ArithmeticException();
                }
                if (out[i][j] instanceof Integer != kind.isInt) {
                    throw new AssertionError("the model itself is wrong");
                }
            }
        }
        return out;
    }

    private Object cell(Node node, int i, int j) {
        Object[][] a = there(node.arguments.get(0));
        Object[][] b = node.arguments.size() > 1 ? there(node.arguments.get(1)) : null;
        Object[][] c = node.arguments.size() > 2 ? there(node.arguments.get(2)) : null;
        switch (node.op) {
            case 0, 1, 2, 3, 8: return pair(node.op, at(a, i, j), at(b, i, j));
            case 4: {
                double total = 0.0;
                for (int k = 0; k < b.length; k++) {
                    total += (Double) a[i][k] * (Double) b[k][j];
                }
                return total;
            }
            case 5: return (Double) a[i][j] > 0.0 ? a[i][j] : (Object) 0.0;
            case 6: return a[j][i];
            case 7: return node.p == 1 ? (Object) ((Number) a[i][j]).intValue() : ((Number) a[i][j]).doubleValue();
            case 9: return at((Integer) at(c, i, j) != 0 ? a : b, i, j);
            case 10, 11: return gathered(node.op, line(a, node.p == 0 ? -1 : i, j));
            case 12: {
                List<Object> row = line(a, i, -1);
                return row.indexOf(gathered(11, row));
            }
            case 13: return i < a.length && j < a[0].length ? a[i][j]
                    : node.p == 0 ? b[i - a.length][j] : b[i][j - a[0].length];
            case 14: return a[node.p + i][j];
            case 15: {
                int named = (Integer) b[0][i];
                return a[java.util.Objects.checkIndex(named < 0 ? named + a.length : named, a.length)][j];
            }
            case 16: {
                double total = 0.0;
                for (int k = 0; k < b[0].length; k++) {
                    int column = j * node.p + k - node.q;
                    double x = outside(column, 0, a[0].length - 1) ? 0.0 : (Double) a[i][column];
                    total += x * (Double) b[0][k];
                }
                return total;
            }
            case 17: return (Integer) c[0][0] != 0 ? a[i][j] : b[i][j];
            default: {
                double x = (Double) a[i][j];
                return x < node.p ? (double) node.p : x > node.q ? (double) node.q : x;
            }
        }
    }

    /** Row i, or column j if i is -1. */
    private static List<Object> line(Object[][] cells, int i, int j) {
        if (i >= 0) {
            return List.of(cells[i]);
        }
        List<Object> column = new ArrayList<>();
        for (Object[] row : cells) {
            column.add(row[j]);
        }
        return column;
    }

    private static Object gathered(int op, List<Object> line) {
        Object result = op == 11 ? line.get(0) : line.get(0) instanceof Integer ? (Object) 0 : (Object) 0.0;
        for (Object x : line) {
            boolean isGreater = ((Number) x).doubleValue() > ((Number) result).doubleValue();
            result = op == 10 ? pair(0, result, x) : isGreater ? x : result;
        }
        return result;
    }

    private static Object pair(int op, Object left, Object right) {
        if (left instanceof Integer x && right instanceof Integer y) {
            return op == 0 ? x + y : op == 1 ? x - y : op == 2 ? x * y : op == 3 ? x / y : x < y ? 1 : 0;
        }
        double x = (Double) left;
        double y = (Double) right;
        if (op == 8) {
            return x < y ? 1 : 0;
        }
        if (op == 3 && y == 0.0) {
            throw new ArithmeticException();
        }
        return op == 0 ? x + y : op == 1 ? x - y : op == 2 ? x * y : x / y;
    }
}
