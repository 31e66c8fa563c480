import java.lang.reflect.InvocationTargetException;
import java.lang.reflect.Method;
import java.lang.reflect.Modifier;
import java.util.Arrays;
import java.util.Comparator;
import java.util.Map;
import java.util.Random;
import java.util.Set;
import java.util.TreeMap;
import java.util.TreeSet;

/** "The public face": a call throws nothing but what stands behind its throws, and each of these in some run. */
final class ThrowsTest {
    private static final int RUNS = 3000;
    private static final int CALLS = 120;
    private static final int[] EDGES = {Integer.MIN_VALUE, -9, -8, -2, -1, 5, 8, 9, 13, 14, 18, 19, 20, 23, 24,
        Integer.MAX_VALUE};
    private static final double[] VALUES = {0, 0, 0, 1, -1, 2, -3, 0.5, 1000, -1000, 1000.5, Double.NaN,
        Double.NEGATIVE_INFINITY, Double.MAX_VALUE, -0.0, Double.MIN_VALUE};

    public static void main(String[] args) {
        // Sorted, since the order in which reflection gives them may differ from machine to machine.
        Method[] calls = Arrays.stream(GraphRunner.class.getDeclaredMethods())
                .filter(call -> Modifier.isPublic(call.getModifiers()))
                .sorted(Comparator.comparing(Method::getName)).toArray(Method[]::new);
        Map<String, Set<String>> seen = new TreeMap<>();
        Random random = new Random(9);
        for (int run = 0; run < RUNS; run++) {
            GraphRunner x = new GraphRunner();
            x.table(0, 1, 1, 1, false);
            x.table(1, 1, 1, 1, true);
            for (int k = 0; k < CALLS; k++) {
                Method call = calls[random.nextInt(calls.length)];
                // Seldom undone, or there would never be fourteen nodes.
                if (!call.getName().equals("undo") || random.nextInt(8) == 0) {
                    take(x, call, arguments(call, random), seen);
                }
            }
        }
        for (Method call : calls) {
            Set<String> due = new TreeSet<>();
            for (Class<?> thrown : call.getExceptionTypes()) {
                due.add(thrown.getName());
            }
            Set<String> got = seen.getOrDefault(call.getName(), Set.of());
            Expect.look(call.getName() + " throws", got.equals(due), "" + got, "" + due);
        }
        Expect.end();
    }

    private static void take(GraphRunner x, Method call, Object[] arguments, Map<String, Set<String>> seen) {
        try {
            call.invoke(x, arguments);
        } catch (InvocationTargetException e) {
            seen.computeIfAbsent(call.getName(), name -> new TreeSet<>()).add(e.getCause().getClass().getName());
        } catch (IllegalAccessException e) {
            Expect.look(call.getName(), false, e.toString(), "a public call");
        }
    }

    private static Object[] arguments(Method call, Random random) {
        Class<?>[] types = call.getParameterTypes();
        Object[] arguments = new Object[types.length];
        // Mostly small numbers, or next to no call would be taken.
        boolean edges = random.nextInt(4) == 0;
        for (int k = 0; k < types.length; k++) {
            if (types[k] == boolean.class) {
                arguments[k] = random.nextBoolean();
            } else if (types[k] == double.class) {
                arguments[k] = VALUES[random.nextInt(edges ? VALUES.length : 7)];
            } else {
                boolean edge = edges && random.nextInt(3) == 0;
                arguments[k] = edge ? EDGES[random.nextInt(EDGES.length)] : random.nextInt(3);
            }
        }
        if (call.getName().equals("node") && !edges) {
            fitNode(arguments, random);
        }
        return arguments;
    }

    /** One of slots 0 and 1, and most often such that it can be prepared. */
    private static void fitNode(Object[] arguments, Random random) {
        int[] ops = {3, 15, 0, 2, 17};
        int op = ops[random.nextInt(ops.length)];
        arguments[0] = op;
        arguments[1] = random.nextInt(2);
        arguments[2] = random.nextInt(2);
        arguments[3] = op == 17 ? random.nextInt(2) : -1;
        arguments[4] = 3 + random.nextInt(17);
    }
}
