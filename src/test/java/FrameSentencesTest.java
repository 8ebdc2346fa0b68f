import java.lang.reflect.Method;
import java.util.ArrayList;
import java.util.Comparator;
import java.util.List;
import java.util.Random;

/** Sentences of what stands around the promises: 'What it is' and 'Not promised'. */
public final class FrameSentencesTest {
    private static final int MOST_CALLS = 512;
    private static final int[] EDGES = {-2147483648, -1, 0, 1, 2, 5, 6, 23, 24, 40, 300, 1000, 2147483647};

    public static void main(String[] args) {
        kindsAndTops();
        faults();
        matches();
        surfaces();
        atMostSoManyCalls();
        laterCalls();
        objectsApart();
        Sentence.quote("Not promised", "How the state is held inside the object is free, as are the speed of each call, the text"
                + " of toString and the behaviour of equals and hashCode.");
        Sentence.finishParts("What it is", "Not promised");
    }

    private static void kindsAndTops() {
        Sentence.test("What it is", "A desk for the logs of bore holes: logs of unlike kinds with gaps", """
            hole(0, 0) = 0
            doubles(0, 0, 4) = 4
            floats(0, 1, 4) = 4
            shorts(0, 2, 4) = 4
            feed(1, 2, 3, 4, 5) = 20
            codes(0, 3) = 20
            k from 0 to 3: fill(0, k, 0, 4, 10, 0, 10) = 4
            k from 0 to 1: none(0, k, 3) = 1
            k from 0 to 1: value(0, k, 3) ! 9
            k from 0 to 1: mean(0, k) = 20         # of 10, 20, 30
            mean(0, 2) = 25                        # of 40, too
            """);
        Sentence.test("What it is", ", tops picked by written windows, layers in order", """
            hole(0, 0) = 0
            layer(0) = 0
            layer(0) = 1
            shorts(0, 0, 6) = 6
            fill(0, 0, 0, 6, 0, 0, 1) = 6
            window(3, 0, 2, true) = 1
            pick(0, 0, 0) = 300
            window(2, 0, 2, true) = 1
            pick(1, 0, 0) ! 7                      # 200 is ahead of the first one's 300
            window(4, 0, 2, true) = 1
            pick(1, 0, 0) = 400
            lay(0, 0, 401) ! 7
            lay(0, 0, 400) = 400
            """);
    }

    private static void faults() {
        Sentence.test("What it is", ", faults that shift and are taken back", """
            hole(5, 0) = 0
            layer(2) = 0
            layer(0) = 1
            line(0, 1, 0, 0) = 1
            throwOf(0, 30) = 30
            lay(0, 0, 100) = 100
            lay(1, 0, 200) = 200
            shift(0) = 1
            top(1, 0) = 230
            back(0) = 1
            top(1, 0) = 200
            """);
    }

    private static void matches() {
        Sentence.test("What it is", ", rows of codes matched at least cost", """
            hole(0, 0) = 0
            hole(1, 0) = 1
            feed(0x01010203, 0, 0, 0, 0) = 20
            end(4) = 4
            codes(0, 0) = 4
            feed(0x01020300, 0, 0, 0, 0) = 20
            end(3) = 3
            codes(1, 0) = 3
            match(0, 0, 1, 0) = 1                  # one of the two 1 is LEFT OUT, STRETCHED
            rows() = 4
            row(1) = 2000
            """);
    }

    private static void surfaces() {
        String ground = """
            hole(0, 0) = 0
            hole(2, 0) = 1
            hole(0, 3) = 2
            hole(3, 3) = 3
            layer(0) = 0
            layer(0) = 1
            layer(0) = 2
            k from 0 to 3: lay(0, k, 10) = 10
            lay(0, 2, 11) = 11
            k from 0 to 3: lay(1, k, 20) = 20
            lay(1, 1, 27) = 27
            k from 0 to 3: lay(2, k, 50) = 50
            triangle(0, 1, 2) = 0
            triangle(3, 2, 1) = 1
            """;
        Sentence.test("What it is", ", surfaces over triangles by exact fractions", ground + """
            height(0, 0, 1, 0) = 31                # 10 and a third
            height(0, 0, 1, 1) = 3
            height(1, 1, 1, 0) = 47                # 23 and a half
            height(1, 1, 1, 1) = 2
            thickness(0, 1, 1, 1, 0) = 79          # 13 and a sixth
            thickness(0, 1, 1, 1, 1) = 6
            """);
        Sentence.test("What it is", ", volumes that add up. ==== 1 HOLES.", ground + """
            volumeOf(0, 0, 1) = 216                # 6 times 10, 17, 9
            volumeOf(1, 0, 1) = 324                # 9 times 10, 9, 17
            volume(0, 1) = 540
            volume(1, 2) = 1245                    # 15 times 30, 23, 30
            volume(0, 2) = 1785
            volume(2, 0) = -1785
            """);
    }

    /** Calls that are all changes, up to the last one that is promised: undo() leads back through each of them. */
    private static void atMostSoManyCalls() {
        Sentence.quote("What it is", "An object is used for at most 512 calls after it has been made");
        for (int changes = 256; changes < MOST_CALLS; changes++) {
            BoreDesk desk = new BoreDesk();
            for (int k = 0; k < changes; k++) {
                Script.due("throwOf() is call " + k, k == 0 ? desk.layer(2) : desk.throwOf(0, k), k);
            }
            int left = MOST_CALLS - changes;
            for (int k = 0; k < left - 1; k++) {
                Script.due("undo() is call " + (changes + k), desk.undo(), 1);
            }
            boolean allBack = changes == left;
            Script.due("call 512", allBack ? desk.undo() : desk.digest(), allBack ? 1 : digestOfThrow(changes - left));
        }
        BoreDesk desk = new BoreDesk();
        for (int k = 0; k < MOST_CALLS - 1; k++) {
            Script.due("undo() of nothing", desk.undo(), 0);
        }
        Script.due("hole() is call 512", desk.hole(0, 0), 0);
    }

    /** Of no HOLE, and one Fault. */
    private static long digestOfThrow(int by) {
        long d = 11;
        for (long x : new long[] {0, 2, 0, 0, 0, by, 0, 0, 3, 1, 2, 1, 1, 0, 0, 0, 0, 0, 0, 0}) {
            d = d * 31 + x;
        }
        return d;
    }

    /** What they answer is free, but LANGUAGE.md lets no call throw in any state. */
    private static void laterCalls() {
        Sentence.quote("What it is", "; what later calls answer is free.");
        Sentence.quote("Not promised", "Nothing is promised beyond the answers and state changes described above, and nothing"
                + " about an object after its 512th call.");
        List<Method> methods = new ArrayList<>(Script.methods().values());
        methods.sort(Comparator.comparing(Method::getName));
        for (int seed = 0; seed < 5; seed++) {
            Random random = new Random(seed);
            BoreDesk desk = new BoreDesk();
            for (int k = 0; k < 20000; k++) {
                Method method = methods.get(random.nextInt(methods.size()));
                boolean spared = method.getName().equals("undo") && random.nextInt(20) > 0;
                Script.due("status", spared ? 0 : Math.min(statusAfter(desk, method, random), 0), 0);
            }
        }
    }

    private static long statusAfter(BoreDesk desk, Method method, Random random) {
        Object[] args = new Object[method.getParameterCount()];
        for (int k = 0; k < args.length; k++) {
            int number = random.nextInt(5) == 0 ? EDGES[random.nextInt(EDGES.length)] : random.nextInt(8);
            args[k] = method.getParameterTypes()[k] == boolean.class ? (Object) (number > 2) : (Object) number;
        }
        Script.call(desk, method, args);
        return desk.status();
    }

    /** One thread alone; what is promised is that objects in it do not meet. */
    private static void objectsApart() {
        Sentence.quote("Not promised", "Use of one object from several threads at once is not promised to be safe.");
        BoreDesk one = new BoreDesk();
        BoreDesk other = new BoreDesk();
        one.hole(3, 3);
        one.feed(1, 2, 3, 4, 5);
        one.codes(0, 0);
        one.match(0, 0, 0, 0);
        one.tree(0);
        one.layer(4);
        one.pick(0, 0, 0);
        one.splice(0, 0, 0, 1, 1);
        one.feed(1, 2, 3, 4, 5);
        one.costs(4, 5, 6);
        one.hole(3, 3);
        Script.due("another one's STATUS", other.status(), 0);
        Script.due("another one's ROWS", other.rows(), 0);
        Script.due("another one's ran()", other.ran(4), 0);
        Script.due("another one's copied()", other.copied(), 0);
        Script.due("another one's digest", other.digest(), new BoreDesk().digest());
        Script.due("another one's undo()", other.undo(), 0);
        Script.due("another one's TAPE", other.end(1), -1);
        Script.due("another one's EDGES", other.along(), -1);
        Script.due("another one's STATUS", other.status(), 9);
        Script.due("another one's HOLE", other.hole(3, 3), 0);
        Script.due("this one's ROWS", one.rows(), 20);
        Script.due("this one's STATUS", one.status(), 6);
    }
}
