import java.lang.reflect.Method;
import java.util.ArrayDeque;
import java.util.ArrayList;
import java.util.Comparator;
import java.util.Deque;
import java.util.List;
import java.util.Random;
import java.util.Set;

/**
 * Any calls, of wild and of likely arguments: none throws; a refused one answers -1 and changes nothing;
 * the TOPS of BEDS stay in ORDER; undo() leads back through every state; a second object answers alike, and so
 * does a third one that is spared the refused calls, so that these leave TAPE, ROWS and EDGES, too.
 */
public final class AnyCallsTest {
    private static final Set<String> CHANGE = Set.of("hole", "doubles", "floats", "shorts", "codes", "lack", "start",
            "put", "fill", "none", "endless", "copy", "splice", "window", "layer", "lay", "pick", "line", "throwOf",
            "shift", "back", "costs", "triangle");
    private static final Set<String> LEAVE_STATUS =
            Set.of("copied", "rows", "triangles", "ran", "digest", "status");
    private static final Set<Integer> STATUSES = Set.of(0, 1, 2, 3, 4, 5, 6, 7, 9, 10);
    private static final int[] EDGES = {-2147483648, -1, 0, 1, 2, 5, 6, 15, 16, 20, 23, 24, 39, 40, 100, 101, 200, 201,
            299, 300, 301, 1000, 1001, 10000, 10001, 100000, 100001, 2000000, 10000000, 10000001, 2147483647};

    private final Random random;
    private final int wildness;
    private final BoreDesk desk = new BoreDesk();
    private final BoreDesk twin = new BoreDesk();
    private final BoreDesk spared = new BoreDesk();
    private final Deque<Long> states = new ArrayDeque<>();
    private final Deque<Integer> holeCounts = new ArrayDeque<>();
    private int holes = 0;

    private AnyCallsTest(int seed) {
        random = new Random(seed);
        wildness = seed % 3;
    }

    public static void main(String[] args) {
        List<Method> methods = new ArrayList<>(Script.methods().values());
        methods.sort(Comparator.comparing(Method::getName));
        for (int seed = 0; seed < 300; seed++) {
            new AnyCallsTest(seed).run(methods);
        }
        Script.finish();
    }

    private Object argument(Class<?> type) {
        if (type == boolean.class) {
            return random.nextBoolean();
        }
        if (random.nextInt(wildness == 2 ? 3 : 25) == 0) {
            return random.nextInt(8) == 0 ? random.nextInt() : EDGES[random.nextInt(EDGES.length)];
        }
        return random.nextInt(wildness == 0 ? 4 : random.nextInt(10) == 0 ? 60 : 8);
    }

    private Object[] arguments(Method method) {
        Class<?>[] types = method.getParameterTypes();
        Object[] args = new Object[types.length];
        for (int k = 0; k < types.length; k++) {
            args[k] = argument(types[k]);
        }
        return args;
    }

    private void run(List<Method> methods) {
        for (int k = 0; k < 400; k++) {
            Method method = methods.get(random.nextInt(methods.size()));
            Object[] args = arguments(method);
            long before = Script.stateOf(desk);
            long statusBefore = desk.status();
            long got = Script.call(desk, method, args);
            Script.due(method.getName() + " of a second object", Script.call(twin, method, args), got);
            checkSpared(method, args, got);
            checkStatus(method.getName(), got, before, statusBefore);
            checkChange(method.getName(), args, got, before);
            if (k % 50 == 49) {
                checkOrder(desk);
                checkOrder(twin);
            }
        }
        while (!states.isEmpty()) {
            Script.due("undo at the end", desk.undo(), 1);
            Script.due("undo at the end leads back", Script.stateOf(desk), states.pop());
        }
        Script.due("the last undo", desk.undo(), 0);
    }

    /** A refused pick() may count for ran(), and a splice() that stopped for copied(): those are not spared. */
    private void checkSpared(Method method, Object[] args, long got) {
        String name = method.getName();
        boolean mayChange = name.equals("pick") || name.equals("splice");
        if (!name.equals("status") && (LEAVE_STATUS.contains(name) || desk.status() == 0 || mayChange)) {
            Script.due(name + " of one that is spared refused calls", Script.call(spared, method, args), got);
        }
    }

    private void checkStatus(String name, long got, long before, long statusBefore) {
        int status = (int) desk.status();
        if (!STATUSES.contains(status)) {
            Script.fail(name + " has STATUS " + status);
        }
        if (LEAVE_STATUS.contains(name)) {
            Script.due(name + " leaves STATUS", status, statusBefore);
        } else if (status != 0) {
            Script.due(name + " refused", got, -1);
        }
    }

    private void checkChange(String name, Object[] args, long got, long before) {
        if (name.equals("undo")) {
            Script.due("undo", got, states.isEmpty() ? 0 : 1);
            if (got == 1) {
                Script.due("undo leads back", Script.stateOf(desk), states.pop());
                holes = holeCounts.pop();
            }
        } else if (CHANGE.contains(name) && (desk.status() == 0 || name.equals("splice") && someCame(args))) {
            states.push(before);
            holeCounts.push(holes);
            holes += name.equals("hole") ? 1 : 0;
        } else {
            Script.due(name + " changes nothing", Script.stateOf(desk), before);
        }
    }

    private boolean someCame(Object[] args) {
        int n = (Integer) args[4];
        return n >= 0 && n <= 6 && isHole(args[0]) && isHole(args[2]) && desk.copied() > 0;
    }

    private boolean isHole(Object h) {
        return (Integer) h >= 0 && (Integer) h < holes;
    }

    private static void checkOrder(BoreDesk desk) {
        for (int h = 0; h < 24; h++) {
            long least = 0;
            for (int l = 0; l < 16; l++) {
                boolean isBed = desk.tell(l) / 1000 != 2 && desk.tell(l) / 1000 != 3;
                long top = desk.top(l, h);
                if (isBed && top >= 0) {
                    Script.due("ORDER", Math.min(top, least), least);
                    least = top;
                }
            }
        }
    }
}
