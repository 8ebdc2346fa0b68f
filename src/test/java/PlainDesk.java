import java.lang.reflect.Array;
import java.math.BigInteger;
import java.nio.ByteBuffer;
import java.util.ArrayDeque;
import java.util.ArrayList;
import java.util.Arrays;
import java.util.Deque;
import java.util.List;
import java.util.Objects;

/**
 * The document once more, as a second desk to compare with: it shares no line with BoreDesk and is written the
 * other way about. LOGS are the language's own arrays, what is changed is changed in place, undo() takes whole
 * copies, and what can't be had is found by the machine as it reads: its exceptions are the STATUS.
 */
final class PlainDesk {
    private static final class Refused extends RuntimeException {
        private static final long serialVersionUID = 1;
        final int status;

        Refused(int status) {
            super(null, null, false, false);
            this.status = status;
        }
    }

    private static final class Log {
        Object values;
        int start = 0;
        int step = 100;

        Log(Object values) {
            this.values = values;
        }

        int length() {
            return Array.getLength(values);
        }

        int kind() {
            return values instanceof double[] ? 1 : values instanceof float[] ? 2 : values instanceof short[] ? 3 : 4;
        }

        double at(int i) {
            if (values instanceof char[] codes) {
                return codes[i];
            }
            return Array.getDouble(values, i);
        }

        void set(int i, double number) {
            if (values instanceof double[] doubles) {
                doubles[i] = number;
            } else if (values instanceof float[] floats) {
                floats[i] = (float) number;
            } else if (values instanceof short[] shorts) {
                shorts[i] = (short) number;
            } else {
                ((char[]) values)[i] = (char) (int) number;
            }
        }

        Log copy() {
            Object array = Array.newInstance(values.getClass().getComponentType(), length());
            System.arraycopy(values, 0, array, 0, length());
            Log copy = new Log(array);
            copy.start = start;
            copy.step = step;
            return copy;
        }
    }

    private static final class Hole {
        int x;
        int y;
        Log[] slots = new Log[6];
        int[] tops = new int[16];

        Hole copy() {
            Hole copy = new Hole();
            copy.x = x;
            copy.y = y;
            copy.tops = tops.clone();
            for (int s = 0; s < 6; s++) {
                copy.slots[s] = slots[s] == null ? null : slots[s].copy();
            }
            return copy;
        }
    }

    private static final class Layer {
        int kind;
        int a;
        int b;
        int c;
        int by;
        boolean shifted;

        boolean isBed() {
            return kind < 2 || kind == 4;
        }

        Layer copy() {
            Layer copy = new Layer();
            copy.kind = kind;
            copy.a = a;
            copy.b = b;
            copy.c = c;
            copy.by = by;
            copy.shifted = shifted;
            return copy;
        }
    }

    private static final class State {
        Hole[] holes = new Hole[24];
        Layer[] layers = new Layer[16];
        int[][] triangles = new int[40][];
        double mark = 0;
        int length = 1;
        boolean rises = true;
        int[] costs = {3, 1, 2};

        State copy() {
            State copy = new State();
            for (int h = 0; h < 24; h++) {
                copy.holes[h] = holes[h] == null ? null : holes[h].copy();
            }
            for (int l = 0; l < 16; l++) {
                copy.layers[l] = layers[l] == null ? null : layers[l].copy();
            }
            copy.triangles = triangles.clone();
            copy.mark = mark;
            copy.length = length;
            copy.rises = rises;
            copy.costs = costs.clone();
            return copy;
        }
    }

    private interface Call {
        long answer();
    }

    private State now = new State();
    private final Deque<State> past = new ArrayDeque<>();
    private final List<Integer> tape = new ArrayList<>();
    private final List<Long> rows = new ArrayList<>();
    private final List<long[]> edges = new ArrayList<>();
    private char[][] matched;
    private int treeSlot = -1;
    private final int[] ran = new int[5];
    private int copied;
    private int status;

    private long ask(Call call) {
        try {
            long answer = call.answer();
            status = 0;
            return answer;
        } catch (Refused e) {
            status = e.status;
        } catch (NullPointerException e) {
            status = 1;
        } catch (IndexOutOfBoundsException e) {
            status = 2;
        } catch (ClassCastException | ArrayStoreException e) {
            status = 3;
        } catch (NegativeArraySizeException e) {
            status = 4;
        } catch (ArithmeticException e) {
            status = 5;
        }
        return -1;
    }

    /** Of those that undo() takes back: what a refused one has changed goes, too. */
    private long change(Call call) {
        State before = now.copy();
        long answer = ask(call);
        if (status == 0) {
            past.push(before);
        } else {
            now = before;
        }
        return answer;
    }

    private static void must(boolean holds, int status) {
        if (!holds) {
            throw new Refused(status);
        }
    }

    private static void within(long number, long least, long greatest) {
        must(number >= least && number <= greatest, 6);
    }

    private static double number(long n, int e) {
        within(e, -200, 200);
        return n * Math.pow(2, e);
    }

    private static int room(Object[] made) {
        int free = 0;
        while (free < made.length && made[free] != null) {
            free++;
        }
        must(free < made.length, 6);
        return free;
    }

    private static int count(Object[] made) {
        int many = 0;
        while (many < made.length && made[many] != null) {
            many++;
        }
        return many;
    }

    private Hole holeAt(int h) {
        Hole hole = now.holes[h];
        must(hole != null, 1);
        return hole;
    }

    private Log logAt(int h, int s) {
        Log log = holeAt(h).slots[s];
        must(log != null, 1);
        return log;
    }

    private Layer layerAt(int l) {
        Layer layer = now.layers[l];
        must(layer != null, 1);
        return layer;
    }

    private Layer fault(int l) {
        Layer layer = layerAt(l);
        must(!layer.isBed(), 3);
        return layer;
    }

    long feed(int a, int b, int c, int d, int e) {
        return ask(() -> {
            must(tape.size() + 20 <= 300, 6);
            for (byte one : ByteBuffer.allocate(20).putInt(a).putInt(b).putInt(c).putInt(d).putInt(e).array()) {
                tape.add(Byte.toUnsignedInt(one));
            }
            return tape.size();
        });
    }

    long end(int n) {
        return ask(() -> {
            must(n >= 0 && n <= tape.size(), 2);
            tape.subList(n, tape.size()).clear();
            return n;
        });
    }

    long hole(int x, int y) {
        return change(() -> {
            within(x, -1000, 1000);
            within(y, -1000, 1000);
            for (int h = 0; h < count(now.holes); h++) {
                must(now.holes[h].x != x || now.holes[h].y != y, 6);
            }
            int h = room(now.holes);
            now.holes[h] = new Hole();
            now.holes[h].x = x;
            now.holes[h].y = y;
            Arrays.fill(now.holes[h].tops, -1);
            return h;
        });
    }

    private long zeros(int h, int s, int n, Class<?> type) {
        return change(() -> {
            Log[] slots = holeAt(h).slots;
            Objects.checkIndex(s, 6);
            within(n, Integer.MIN_VALUE, 300);
            slots[s] = new Log(Array.newInstance(type, n));
            return n;
        });
    }

    long doubles(int h, int s, int n) {
        return zeros(h, s, n, double.class);
    }

    long floats(int h, int s, int n) {
        return zeros(h, s, n, float.class);
    }

    long shorts(int h, int s, int n) {
        return zeros(h, s, n, short.class);
    }

    long codes(int h, int s) {
        return change(() -> {
            char[] codes = new char[tape.size()];
            for (int i = 0; i < codes.length; i++) {
                codes[i] = (char) tape.get(i).intValue();
            }
            holeAt(h).slots[s] = new Log(codes);
            tape.clear();
            return codes.length;
        });
    }

    long lack(int h, int s) {
        return change(() -> {
            long held = holeAt(h).slots[s] == null ? 0 : 1;
            now.holes[h].slots[s] = null;
            return held;
        });
    }

    long start(int h, int s, int at, int step) {
        return change(() -> {
            within(at, 0, 10000000);
            within(step, 1, 10000);
            logAt(h, s).start = at;
            logAt(h, s).step = step;
            return 1;
        });
    }

    long put(int h, int s, int i, int n, int e) {
        return change(() -> {
            double number = number(n, e);
            logAt(h, s).set(i, number);
            return (long) logAt(h, s).at(i);
        });
    }

    long fill(int h, int s, int from, int many, int n, int e, int by) {
        return change(() -> {
            number(n, e);
            Log log = logAt(h, s);
            must(many >= 0, 4);
            Objects.checkFromIndexSize(from, many, log.length());
            for (int k = 0; k < many; k++) {
                log.set(from + k, number(n + (long) k * by, e));
            }
            return many;
        });
    }

    private void gap(int h, int s, int i, double gap) {
        Log log = logAt(h, s);
        must(log.kind() < 3, 3);
        log.set(i, gap);
    }

    long none(int h, int s, int i) {
        return change(() -> {
            gap(h, s, i, Double.NaN);
            return 1;
        });
    }

    long endless(int h, int s, int i, boolean below) {
        return change(() -> {
            gap(h, s, i, below ? Double.NEGATIVE_INFINITY : Double.POSITIVE_INFINITY);
            return 1;
        });
    }

    long copy(int h, int s, int at, int h2, int s2, int place, int n) {
        return change(() -> {
            Log log = logAt(h, s);
            System.arraycopy(log.values, at, logAt(h2, s2).values, place, n);
            return n;
        });
    }

    long splice(int h, int from, int h2, int to, int n) {
        State before = now.copy();
        int[] came = {-1};
        long answer = ask(() -> {
            within(n, 0, 6);
            holeAt(h);
            holeAt(h2);
            for (came[0] = 0; came[0] < n; came[0]++) {
                Objects.checkIndex(to + came[0], 6);
                holeAt(h2).slots[to + came[0]] = holeAt(h).slots[from + came[0]].copy();
            }
            return n;
        });
        copied = came[0] < 0 ? copied : came[0];
        if (status == 0 || came[0] > 0) {
            past.push(before);
        }
        return answer;
    }

    long window(int n, int e, int length, boolean rises) {
        return change(() -> {
            now.mark = number(n, e);
            within(length, 1, 20);
            now.length = length;
            now.rises = rises;
            return 1;
        });
    }

    long layer(int kind) {
        return change(() -> {
            within(kind, 0, 4);
            int l = room(now.layers);
            now.layers[l] = new Layer();
            now.layers[l].kind = kind;
            return l;
        });
    }

    private long layTop(int l, int h, int top) {
        holeAt(h).tops[l] = top;
        int deepest = -1;
        for (int k = 0; k < count(now.layers) && layerAt(l).isBed() && top >= 0; k++) {
            if (now.layers[k].isBed() && holeAt(h).tops[k] >= 0) {
                must(holeAt(h).tops[k] >= deepest, 7);
                deepest = holeAt(h).tops[k];
            }
        }
        return top;
    }

    long lay(int l, int h, int top) {
        return change(() -> {
            within(top, -1, 10000000);
            Layer layer = layerAt(l);
            holeAt(h);
            must(!layer.shifted, 10);
            return layTop(l, h, top);
        });
    }

    private boolean crosses(Log log, int i) {
        double mark = log.kind() == 2 ? (float) now.mark : now.mark;
        for (int k = i - now.length; k < i + now.length; k++) {
            if (k < 0 || k >= log.length()) {
                return false;
            }
            boolean below = k < i == now.rises;
            if (below ? !(log.at(k) < mark) : !(log.at(k) >= mark)) {
                return false;
            }
        }
        return true;
    }

    private int place(Log log, int kind) {
        List<Integer> places = new ArrayList<>();
        double greatest = Double.NEGATIVE_INFINITY;
        for (int i = 0; i < log.length(); i++) {
            if (kind < 2) {
                if (crosses(log, i)) {
                    places.add(i);
                }
                continue;
            }
            double size = kind == 4 ? log.at(i) : i == 0 ? Double.NaN : Math.abs(log.at(i) - log.at(i - 1));
            if (Double.isNaN(size) || kind != 4 && Double.isInfinite(size) || size < greatest) {
                continue;
            }
            if (size > greatest) {
                places.clear();
            }
            greatest = size;
            places.add(i);
        }
        must(!places.isEmpty(), 9);
        return kind == 1 || kind == 3 ? places.get(places.size() - 1) : places.get(0);
    }

    long pick(int l, int h, int s) {
        return change(() -> {
            Layer layer = layerAt(l);
            Log log = logAt(h, s);
            must(!layer.shifted, 10);
            ran[layer.kind]++;
            long top = log.start + (long) log.step * place(log, layer.kind);
            within(top, 0, 10000000);
            return layTop(l, h, (int) top);
        });
    }

    long line(int l, int a, int b, int c) {
        return change(() -> {
            within(a, -1000, 1000);
            within(b, -1000, 1000);
            within(c, -2000000, 2000000);
            Layer fault = fault(l);
            must(!fault.shifted, 10);
            fault.a = a;
            fault.b = b;
            fault.c = c;
            return 1;
        });
    }

    long throwOf(int l, int by) {
        return change(() -> {
            within(by, -100000, 100000);
            must(!fault(l).shifted, 10);
            now.layers[l].by = by;
            return by;
        });
    }

    private static int sideOf(Layer fault, Hole hole) {
        return Long.signum((long) fault.a * hole.x + (long) fault.b * hole.y - fault.c);
    }

    private long move(int l, boolean forth) {
        Layer fault = fault(l);
        must(fault.shifted != forth, 10);
        fault.shifted = forth;
        long many = 0;
        for (int h = 0; h < count(now.holes); h++) {
            int[] tops = holeAt(h).tops;
            int side = sideOf(fault, holeAt(h));
            int move = side == 1 ? fault.by : side == -1 && fault.kind == 3 ? -fault.by : 0;
            for (int k = 0; k < count(now.layers) && tops[l] >= 0; k++) {
                if (now.layers[k].isBed() && tops[k] > tops[l]) {
                    many++;
                    tops[k] += forth ? move : -move;
                    must(tops[k] > tops[l] && tops[k] <= 10000000, 7);
                }
            }
        }
        return many;
    }

    long shift(int l) {
        return change(() -> move(l, true));
    }

    long back(int l) {
        return change(() -> move(l, false));
    }

    long costs(int unlike, int stretched, int out) {
        return change(() -> {
            within(unlike, 0, 100);
            within(stretched, 0, 100);
            within(out, 0, 100);
            now.costs = new int[] {unlike, stretched, out};
            return 1;
        });
    }

    private long turn(int a, int b, long x, long y) {
        Hole from = holeAt(a);
        Hole to = holeAt(b);
        return (to.x - from.x) * (y - from.y) - (to.y - from.y) * (x - from.x);
    }

    private long turn(int[] t, int k, Hole p) {
        long all = turn(t[0], t[1], holeAt(t[2]).x, holeAt(t[2]).y);
        return Long.signum(all) * turn(t[k], t[(k + 1) % 3], p.x, p.y);
    }

    private boolean apart(int[] t, int[] other) {
        boolean apart = false;
        for (int k = 0; k < 3; k++) {
            apart |= turn(t, k, holeAt(other[0])) <= 0 && turn(t, k, holeAt(other[1])) <= 0 && turn(t, k, holeAt(other[2])) <= 0;
        }
        return apart;
    }

    long triangle(int a, int b, int c) {
        return change(() -> {
            holeAt(a);
            holeAt(b);
            int[] made = {a, b, c};
            must(turn(a, b, holeAt(c).x, holeAt(c).y) != 0, 6);
            for (int t = 0; t < count(now.triangles); t++) {
                must(apart(made, now.triangles[t]) || apart(now.triangles[t], made), 6);
            }
            int t = room(now.triangles);
            now.triangles[t] = made;
            return t;
        });
    }

    long undo() {
        return ask(() -> {
            if (past.isEmpty()) {
                return 0;
            }
            now = past.pop();
            return 1;
        });
    }

    long kind(int h, int s) {
        return ask(() -> holeAt(h).slots[s] == null ? 0 : holeAt(h).slots[s].kind());
    }

    long length(int h, int s) {
        return ask(() -> logAt(h, s).length());
    }

    long value(int h, int s, int i) {
        return ask(() -> {
            double value = logAt(h, s).at(i);
            must(!Double.isNaN(value), 9);
            return (long) value;
        });
    }

    long part(int h, int s, int i, int n, int e, int which) {
        return ask(() -> {
            double by = number(n, e);
            within(which, 0, 1);
            Log log = logAt(h, s);
            must(log.kind() < 3, 3);
            must(Double.isFinite(log.at(i)), 9);
            if (log.values instanceof float[] floats) {
                must((float) by != 0, 5);
                float rest = floats[i] % (float) by;
                return (long) (which == 1 ? rest : floats[i] - rest);
            }
            must(by != 0, 5);
            double rest = log.at(i) % by;
            return (long) (which == 1 ? rest : log.at(i) - rest);
        });
    }

    long mean(int h, int s) {
        return ask(() -> {
            long sum = 0;
            long many = 0;
            for (int i = 0; i < logAt(h, s).length(); i++) {
                if (Double.isFinite(logAt(h, s).at(i))) {
                    sum += (long) logAt(h, s).at(i);
                    many++;
                }
            }
            return sum / many;
        });
    }

    long copied() {
        return copied;
    }

    long top(int l, int h) {
        return ask(() -> {
            layerAt(l);
            must(holeAt(h).tops[l] >= 0, 9);
            return holeAt(h).tops[l];
        });
    }

    long find(int l) {
        return ask(() -> {
            layerAt(l);
            int found = -1;
            for (int h = count(now.holes) - 1; h >= 0; h--) {
                if (holeAt(h).tops[l] >= 0 && (found < 0 || holeAt(h).tops[l] <= holeAt(found).tops[l])) {
                    found = h;
                }
            }
            must(found >= 0, 9);
            return found;
        });
    }

    long side(int l, int h) {
        return ask(() -> sideOf(fault(l), holeAt(h)));
    }

    long isShifted(int l) {
        return ask(() -> fault(l).shifted ? 1 : 0);
    }

    long tell(int l) {
        return ask(() -> {
            long told = new int[] {0, 1500, 2000, 3000, 4000}[layerAt(l).kind];
            for (int h = 0; h < count(now.holes); h++) {
                told += holeAt(h).tops[l] >= 0 ? 1 : 0;
            }
            return told;
        });
    }

    long drift(int h, int h2) {
        return ask(() -> {
            int[] tops = holeAt(h).tops;
            int[] others = holeAt(h2).tops;
            long sum = 0;
            for (int l = 0; l < count(now.layers); l++) {
                int weight = new int[] {2, 2, 0, 0, 5}[now.layers[l].kind];
                sum += tops[l] >= 0 && others[l] >= 0 ? (long) weight * (others[l] - tops[l]) : 0;
            }
            return sum;
        });
    }

    private char[] codesOf(int h, int s) {
        return (char[]) logAt(h, s).values;
    }

    private int leftOut(char[] row, int i) {
        return i > 0 && row[i] == row[i - 1] ? now.costs[1] : now.costs[2];
    }

    private int pair(char one, char other) {
        return one == other ? 0 : now.costs[0];
    }

    /** The least COST of what is left from i and j on backwards: at [i][j] that of the first i and the first j. */
    private int[][] leastCosts(char[] one, char[] other) {
        int[][] least = new int[one.length + 1][other.length + 1];
        for (int i = 0; i <= one.length; i++) {
            for (int j = 0; j <= other.length; j++) {
                int best = i + j == 0 ? 0 : Integer.MAX_VALUE;
                best = i > 0 ? Math.min(best, least[i - 1][j] + leftOut(one, i - 1)) : best;
                best = j > 0 ? Math.min(best, least[i][j - 1] + leftOut(other, j - 1)) : best;
                best = i > 0 && j > 0 ? Math.min(best, least[i - 1][j - 1] + pair(one[i - 1], other[j - 1])) : best;
                least[i][j] = best;
            }
        }
        return least;
    }

    long match(int h, int s, int h2, int s2) {
        return ask(() -> {
            char[] one = codesOf(h, s).clone();
            char[] other = codesOf(h2, s2).clone();
            within(one.length, 0, 100);
            within(other.length, 0, 100);
            matched = new char[][] {one, other};
            rows.clear();
            int[][] least = leastCosts(one, other);
            int i = one.length;
            int j = other.length;
            while (i > 0 || j > 0) {
                if (i > 0 && j > 0 && least[i][j] == least[i - 1][j - 1] + pair(one[i - 1], other[j - 1])) {
                    rows.add(0, 1000L * i-- + j--);
                } else if (i > 0 && least[i][j] == least[i - 1][j] + leftOut(one, i - 1)) {
                    rows.add(0, 1000L * i--);
                } else {
                    rows.add(0, (long) j--);
                }
            }
            return least[one.length][other.length];
        });
    }

    long rows() {
        return rows.size();
    }

    long row(int k) {
        return ask(() -> rows.get(k));
    }

    long check() {
        return ask(() -> {
            must(matched != null, 9);
            long sum = 0;
            for (long row : rows) {
                int i = (int) row / 1000 - 1;
                int j = (int) row % 1000 - 1;
                sum += i < 0 ? leftOut(matched[1], j) : j < 0 ? leftOut(matched[0], i) : pair(matched[0][i], matched[1][j]);
            }
            return sum;
        });
    }

    long tree(int s) {
        return ask(() -> {
            treeSlot = Objects.checkIndex(s, 6);
            edges.clear();
            List<Integer> left = new ArrayList<>();
            List<Integer> joined = new ArrayList<>();
            for (int h = 0; h < count(now.holes); h++) {
                if (holeAt(h).slots[s] != null && holeAt(h).slots[s].kind() == 4) {
                    (joined.isEmpty() ? joined : left).add(h);
                }
            }
            while (!left.isEmpty()) {
                long[] best = null;
                for (int h : left) {
                    for (int g : joined) {
                        long[] edge = {squared(h, g), h, g};
                        best = best == null || Arrays.compare(edge, best) < 0 ? edge : best;
                    }
                }
                edges.add(best);
                joined.add((int) best[1]);
                left.remove(Integer.valueOf((int) best[1]));
            }
            return joined.size();
        });
    }

    private long squared(int h, int g) {
        long x = holeAt(h).x - holeAt(g).x;
        long y = holeAt(h).y - holeAt(g).y;
        return x * x + y * y;
    }

    long edge(int k) {
        return ask(() -> 100 * edges.get(k)[1] + edges.get(k)[2]);
    }

    long along() {
        return ask(() -> {
            must(treeSlot >= 0, 9);
            long sum = 0;
            for (long[] edge : edges) {
                char[] one = codesOf((int) edge[1], treeSlot);
                within(one.length, 0, 100);
                char[] other = codesOf((int) edge[2], treeSlot);
                within(other.length, 0, 100);
                sum += leastCosts(one, other)[one.length][other.length];
            }
            return sum;
        });
    }

    long triangles() {
        return count(now.triangles);
    }

    private int[] triangleAt(int t) {
        int[] triangle = now.triangles[t];
        must(triangle != null, 1);
        return triangle;
    }

    private boolean broken(int[] triangle) {
        for (int l = 0; l < count(now.layers); l++) {
            for (int a : triangle) {
                for (int b : triangle) {
                    if (!now.layers[l].isBed() && sideOf(now.layers[l], holeAt(a)) * sideOf(now.layers[l], holeAt(b)) < 0) {
                        return true;
                    }
                }
            }
        }
        return false;
    }

    private boolean hasTops(int[] triangle, int l) {
        return holeAt(triangle[0]).tops[l] >= 0 && holeAt(triangle[1]).tops[l] >= 0 && holeAt(triangle[2]).tops[l] >= 0;
    }

    long isBroken(int t) {
        return ask(() -> broken(triangleAt(t)) ? 1 : 0);
    }

    private int[] over(int x, int y) {
        Hole point = new Hole();
        point.x = x;
        point.y = y;
        for (int t = 0; t < count(now.triangles); t++) {
            int[] it = now.triangles[t];
            if (turn(it, 0, point) >= 0 && turn(it, 1, point) >= 0 && turn(it, 2, point) >= 0) {
                must(!broken(it), 10);
                return it;
            }
        }
        throw new Refused(9);
    }

    /** By Cramer's rule, times the triangle's determinant; which is the second number. */
    private BigInteger[] plane(int[] t, int l, int x, int y) {
        must(hasTops(t, l), 9);
        Hole o = holeAt(t[0]);
        Hole p = holeAt(t[1]);
        Hole q = holeAt(t[2]);
        long det = (long) (p.x - o.x) * (q.y - o.y) - (long) (p.y - o.y) * (q.x - o.x);
        long up = p.tops[l] - o.tops[l];
        long vp = q.tops[l] - o.tops[l];
        long slopeX = up * (q.y - o.y) - vp * (p.y - o.y);
        long slopeY = vp * (p.x - o.x) - up * (q.x - o.x);
        long upper = o.tops[l] * det + slopeX * (x - o.x) + slopeY * (y - o.y);
        return new BigInteger[] {BigInteger.valueOf(upper), BigInteger.valueOf(det)};
    }

    private static long lowest(BigInteger upper, BigInteger lower, int which) {
        BigInteger common = upper.gcd(lower).multiply(BigInteger.valueOf(lower.signum()));
        return (which == 0 ? upper : lower).divide(common).longValueExact();
    }

    private static void onMap(int x, int y, int which) {
        within(x, -1000, 1000);
        within(y, -1000, 1000);
        within(which, 0, 1);
    }

    long height(int l, int x, int y, int which) {
        return ask(() -> {
            onMap(x, y, which);
            layerAt(l);
            BigInteger[] height = plane(over(x, y), l, x, y);
            return lowest(height[0], height[1], which);
        });
    }

    long thickness(int l, int m, int x, int y, int which) {
        return ask(() -> {
            onMap(x, y, which);
            layerAt(l);
            layerAt(m);
            int[] t = over(x, y);
            BigInteger[] first = plane(t, l, x, y);
            BigInteger[] second = plane(t, m, x, y);
            return lowest(second[0].subtract(first[0]), first[1], which);
        });
    }

    private long sixths(int[] t, int l, int m) {
        long sum = 0;
        for (int h : t) {
            sum += holeAt(h).tops[m] - holeAt(h).tops[l];
        }
        return Math.abs(turn(t[0], t[1], holeAt(t[2]).x, holeAt(t[2]).y)) * sum;
    }

    long volumeOf(int t, int l, int m) {
        return ask(() -> {
            layerAt(l);
            layerAt(m);
            int[] triangle = triangleAt(t);
            must(!broken(triangle), 10);
            must(hasTops(triangle, l) && hasTops(triangle, m), 9);
            return sixths(triangle, l, m);
        });
    }

    long volume(int l, int m) {
        return ask(() -> {
            layerAt(l);
            layerAt(m);
            long sum = 0;
            for (int t = 0; t < count(now.triangles); t++) {
                int[] triangle = now.triangles[t];
                boolean counts = !broken(triangle) && hasTops(triangle, l) && hasTops(triangle, m);
                sum += counts ? sixths(triangle, l, m) : 0;
            }
            return sum;
        });
    }

    long ran(int kind) {
        return kind < 0 || kind > 4 ? 0 : ran[kind];
    }

    long status() {
        return status;
    }

    long digest() {
        List<Long> told = new ArrayList<>();
        told.add((long) count(now.holes));
        for (int h = 0; h < count(now.holes); h++) {
            tellHole(holeAt(h), told);
        }
        for (int l = 0; l < count(now.layers); l++) {
            Layer layer = now.layers[l];
            told.add((long) layer.kind);
            if (!layer.isBed()) {
                told.addAll(List.of((long) layer.a, (long) layer.b, (long) layer.c, (long) layer.by));
                told.add(layer.shifted ? 1L : 0L);
            }
        }
        told.add((long) count(now.triangles));
        for (int t = 0; t < count(now.triangles); t++) {
            for (int h : now.triangles[t]) {
                told.add((long) h);
            }
        }
        for (int cost : now.costs) {
            told.add((long) cost);
        }
        told.addAll(List.of((long) now.length, now.rises ? 1L : 0L, (long) now.mark));
        for (int often : ran) {
            told.add((long) often);
        }
        told.add((long) copied);
        long d = 11;
        for (long x : told) {
            d = 31 * d + x;
        }
        return d;
    }

    private void tellHole(Hole hole, List<Long> told) {
        told.addAll(List.of((long) hole.x, (long) hole.y));
        for (Log log : hole.slots) {
            told.add(log == null ? 0L : log.kind());
            if (log != null) {
                told.addAll(List.of((long) log.start, (long) log.step, (long) log.length()));
                for (int i = 0; i < log.length(); i++) {
                    told.add(Double.isNaN(log.at(i)) ? 77 : (long) log.at(i));
                }
            }
        }
        for (int l = 0; l < count(now.layers); l++) {
            told.add((long) hole.tops[l]);
        }
    }
}
