import java.lang.reflect.Method;
import java.util.Arrays;
import java.util.Random;

/**
 * Runs of 512 calls, each as a run would likely have it and now and then at or beyond a bound, on a BoreDesk and on
 * a PlainDesk: they answer alike, with the same STATUS and the same digest.
 */
public final class PlainDeskTest {
    /** What the arguments of each call are like; see argument(). The calls of a run are mostly of one of these rows. */
    private static final String[][] CALLS = {
        {"doubles hsn", "floats hsn", "shorts hsn", "codes hs", "feed iiiii", "end m", "lack hs", "start hspg", "put hsjve",
            "put hsjve", "fill hsjnvev", "fill hsjnvev", "none hsj", "endless hsjb", "copy hsjhsjn", "splice hshsn", "undo ",
            "kind hs", "length hs", "value hsj", "part hsjvew", "part hsjvew", "mean hs", "copied ", "window vezb", "layer k",
            "pick lhs", "pick lhs", "ran k", "lay lhp", "hole xx"},
        {"layer k", "lay lhp", "lay lhp", "lay lhp", "lay lhp", "line laac", "throwOf lp", "throwOf la", "shift l", "shift l",
            "back l", "back l", "top lh", "find l", "side lh", "isShifted l", "tell l", "drift hh", "undo ", "hole xx", "shorts hsn",
            "fill hsjnvev", "start hspg", "pick lhs", "ran k", "status "},
        {"feed iiiii", "feed iiiii", "feed iiiii", "feed iiiii", "end m", "codes hs", "codes hs", "put hsjoo", "copy hsjhsjn",
            "splice hshsn", "lack hs", "shorts hsn", "costs ooo", "match hshs", "match hshs", "rows ", "row j", "row j", "check ",
            "tree s", "edge j", "along ", "along ", "undo ", "hole xx"},
        {"triangle hhh", "triangle hhh", "triangle hhh", "layer k", "lay lhp", "lay lhp", "lay lhp", "lay lhp", "line laac",
            "throwOf la", "shift l", "back l", "triangles ", "isBroken t", "height lxxw", "height lxxw", "thickness llxxw",
            "thickness llxxw", "volumeOf tll", "volume ll", "undo ", "hole xx", "digest "}};
    private static final int[] BOUNDS = {-2147483648, -2000001, -2000000, -100001, -100000, -1001, -1000, -201, -200, -2, -1, 0, 1,
            4, 5, 6, 7, 15, 16, 20, 21, 23, 24, 39, 40, 99, 100, 101, 199, 200, 201, 299, 300, 301, 999, 1000, 1001, 10000, 10001,
            99999, 100000, 100001, 1999999, 2000000, 2000001, 9999999, 10000000, 10000001, 2147483647};

    private final int seed;
    private final Random random;
    private final BoreDesk desk = new BoreDesk();
    private final PlainDesk plain = new PlainDesk();
    private final String[] calls;
    private final int holes;
    private final int layers;
    private final int spread;

    private PlainDeskTest(int seed) {
        this.seed = seed;
        random = new Random(seed);
        calls = CALLS[seed % CALLS.length];
        layers = 1 + random.nextInt(random.nextInt(4) == 0 ? 16 : 4);
        holes = 2 + random.nextInt(random.nextBoolean() ? 5 : 22);
        spread = 2 + random.nextInt(random.nextBoolean() ? 5 : 999);
    }

    public static void main(String[] args) throws ReflectiveOperationException {
        for (int seed = 0; seed < 800; seed++) {
            new PlainDeskTest(seed).run();
        }
        Script.finish();
    }

    private int number() {
        switch (random.nextInt(4)) {
            case 0:
                return random.nextInt();
            case 1:
                return random.nextInt(200001) - 100000;
            default:
                return random.nextInt(9) - 4;
        }
    }

    private int argument(char like) {
        if (random.nextInt(60) == 0) {
            return BOUNDS[random.nextInt(BOUNDS.length)];
        }
        switch (like) {
            case 'h':
                return random.nextInt(holes);
            case 's':
                return random.nextInt(random.nextInt(20) == 0 ? 6 : 2);
            case 'l':
                return random.nextInt(layers);
            case 'k':
                return random.nextInt(5);
            case 'x':
                return random.nextInt(2 * spread + 1) - spread;
            case 'a':
                return random.nextInt(7) - 3;
            case 'c':
                return random.nextInt(4 * spread + 1) - 2 * spread;
            case 'p':
                return random.nextInt(6) > 0 ? random.nextInt(400) : random.nextBoolean() ? random.nextInt(100001)
                        : 10000000 - random.nextInt(400);
            case 'g':
                return 1 + random.nextInt(200);
            case 'i':
                return random.nextInt(4) == 0 ? random.nextInt() : 16843009 * random.nextInt(3) + random.nextInt(3);
            case 'm':
                return random.nextInt(3) > 0 ? random.nextInt(16) : 20 * random.nextInt(6) + random.nextInt(3);
            case 'n':
                return random.nextInt(random.nextInt(3) == 0 ? 14 : 5);
            case 'j':
                return random.nextInt(9);
            case 'v':
                return number();
            case 'e':
                return random.nextInt(3) == 0 ? random.nextInt(401) - 200 : random.nextInt(7) - 3;
            case 'z':
                return 1 + random.nextInt(3);
            case 'o':
                return random.nextInt(5);
            case 't':
                return random.nextInt(6);
            default:
                return random.nextInt(2);
        }
    }

    private Object[] arguments(String likes) {
        Object[] args = new Object[likes.length()];
        for (int k = 0; k < args.length; k++) {
            char like = likes.charAt(k);
            args[k] = like == 'b' ? (Object) random.nextBoolean() : (Object) argument(like);
        }
        return args;
    }

    private void run() throws ReflectiveOperationException {
        for (int k = 0; k < 512; k++) {
            String[] row = random.nextInt(10) == 0 ? CALLS[random.nextInt(CALLS.length)] : calls;
            String[] words = (k < holes ? "hole xx" : row[random.nextInt(row.length)]).split(" ", 2);
            Method method = Script.methods().get(words[0]);
            Method other = PlainDesk.class.getDeclaredMethod(words[0], method.getParameterTypes());
            Object[] args = arguments(words[1]);
            long got = Script.call(desk, method, args);
            long want = (Long) other.invoke(plain, args);
            String told = "run " + seed + ", call " + k + ": " + words[0] + Arrays.toString(args);
            Script.due(told, got, want);
            Script.due(told + ", its STATUS", desk.status(), plain.status());
            Script.due(told + ", the digest", desk.digest(), plain.digest());
        }
    }
}
