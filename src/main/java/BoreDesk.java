import java.util.Arrays;

/**
 * A desk for the logs of bore holes. DOC.md tells what each call does, and the words in capitals.
 *
 * All that undo() takes back stands in one Survey, whose parts never change once they are in it: a
 * change makes a new Survey that shares what stayed, so the old one is the whole of what undo() needs.
 */
public final class BoreDesk {
    private static final int NOT_THERE = 1;
    private static final int BEYOND = 2;
    private static final int OTHER_KIND = 3;
    private static final int BELOW_NOUGHT = 4;
    private static final int NOUGHT_TO_SHARE_BY = 5;
    private static final int NOT_AS_TOLD = 6;
    private static final int OUT_OF_ORDER = 7;
    private static final int LACKING = 9;
    private static final int SHIFTED_OR_BROKEN = 10;
    private static final long REFUSED = -1;

    private static final int MOST_CALLS = 512;
    private static final int MOST_HOLES = 24;
    private static final int MOST_SLOTS = 6;
    private static final int MOST_VALUES = 300;
    private static final int MOST_BYTES = 300;
    private static final int MOST_LAYERS = 16;
    private static final int MOST_TRIANGLES = 40;
    private static final int MOST_MATCHED = 100;
    private static final int FARTHEST = 1000;
    private static final int DEEPEST = 10000000;
    private static final int LONGEST_STEP = 10000;
    private static final int GREATEST_POWER = 200;
    private static final int LONGEST_WINDOW = 20;
    private static final int GREATEST_LINE = 2000000;
    private static final int GREATEST_THROW = 100000;
    private static final int GREATEST_COST = 100;
    private static final int NO_TOP = -1;
    private static final int NO_PLACE = -1;
    private static final int NO_TREE = -1;
    private static final int DIGEST_OF_NONE = 77;

    private static final int DOUBLES = 1;
    private static final int FLOATS = 2;
    private static final int SHORTS = 3;
    private static final int CODES = 4;

    private static final int BED = 0;
    private static final int LENS = 1;
    private static final int FAULT = 2;
    private static final int CUT = 3;
    private static final int MARKER = 4;
    private static final int[] WEIGHTS = {2, 2, 0, 0, 5};

    private final int[] tape;
    private int taped;
    private Survey now;
    private final Survey[] past;
    private int pastCount;
    private final Matcher matcher;
    private final int[] edges;
    private int edgeCount;
    private int treeSlot;
    private final boolean[] joined;
    private final int[] looked;
    private int copiedLogs;
    private int status;

    public BoreDesk() {
        tape = new int[MOST_BYTES];
        now = new Survey(new Hole[0], new Layer[0], new Triangle[0], new Window(0, 1, true), new Costs(3, 1, 2));
        past = new Survey[MOST_CALLS];
        matcher = new Matcher();
        edges = new int[MOST_HOLES];
        treeSlot = NO_TREE;
        joined = new boolean[MOST_HOLES];
        looked = new int[WEIGHTS.length];
    }

    // ---- the tape

    public long feed(int a, int b, int c, int d, int e) {
        if (taped + 20 > MOST_BYTES) {
            return refuse(NOT_AS_TOLD);
        }
        tapeBytesOf(a);
        tapeBytesOf(b);
        tapeBytesOf(c);
        tapeBytesOf(d);
        tapeBytesOf(e);
        return answer(taped);
    }

    private void tapeBytesOf(int four) {
        for (int low = 24; low >= 0 && taped < MOST_BYTES; low -= 8) {
            tape[taped] = (four >>> low) & 255;
            taped++;
        }
    }

    public long end(int n) {
        if (n < 0 || n > taped) {
            return refuse(BEYOND);
        }
        taped = n;
        return answer(n);
    }

    // ---- holes and their logs

    public long hole(int x, int y) {
        int count = now.holes.length;
        if (!isOnMap(x, y) || count >= MOST_HOLES || now.hasHoleAt(x, y)) {
            return refuse(NOT_AS_TOLD);
        }
        keep(now.withNewHole(new Hole(x, y)));
        return answer(count);
    }

    public long doubles(int h, int s, int n) {
        return holdZeros(h, s, n, DOUBLES);
    }

    public long floats(int h, int s, int n) {
        return holdZeros(h, s, n, FLOATS);
    }

    public long shorts(int h, int s, int n) {
        return holdZeros(h, s, n, SHORTS);
    }

    private long holdZeros(int h, int s, int n, int kind) {
        if (holeOfSlot(h, s) == null) {
            return REFUSED;
        }
        if (n > MOST_VALUES) {
            return refuse(NOT_AS_TOLD);
        }
        if (n < 0) {
            return refuse(BELOW_NOUGHT);
        }
        keep(now.withLog(h, s, new Log(kind, n)));
        return answer(n);
    }

    public long codes(int h, int s) {
        if (holeOfSlot(h, s) == null) {
            return REFUSED;
        }
        int many = taped;
        Log log = new Log(CODES, many);
        for (int i = 0; i < many; i++) {
            log.values[i] = tape[i];
        }
        taped = 0;
        keep(now.withLog(h, s, log));
        return answer(many);
    }

    public long lack(int h, int s) {
        Hole hole = holeOfSlot(h, s);
        if (hole == null) {
            return REFUSED;
        }
        boolean held = hole.slots[s] != null;
        keep(now.withLog(h, s, null));
        return answer(held ? 1 : 0);
    }

    public long start(int h, int s, int at, int step) {
        if (at < 0 || at > DEEPEST || step < 1 || step > LONGEST_STEP) {
            return refuse(NOT_AS_TOLD);
        }
        Log log = logAt(h, s);
        if (log == null) {
            return REFUSED;
        }
        keep(now.withLog(h, s, log.movedTo(at, step)));
        return answer(1);
    }

    public long put(int h, int s, int i, int n, int e) {
        if (!isPower(e)) {
            return refuse(NOT_AS_TOLD);
        }
        Log log = logAt(h, s);
        if (log == null) {
            return REFUSED;
        }
        if (!log.has(i)) {
            return refuse(BEYOND);
        }
        Log changed = log.twin();
        changed.store(i, n * powerOfTwo(e));
        keep(now.withLog(h, s, changed));
        return answer(changed.wholePart(i));
    }

    public long fill(int h, int s, int from, int many, int n, int e, int by) {
        if (!isPower(e)) {
            return refuse(NOT_AS_TOLD);
        }
        Log log = logAt(h, s);
        if (log == null) {
            return REFUSED;
        }
        if (many < 0) {
            return refuse(BELOW_NOUGHT);
        }
        if (!log.hasAll(from, many)) {
            return refuse(BEYOND);
        }
        Log changed = log.twin();
        double power = powerOfTwo(e);
        long next = n;
        for (int k = 0; k < many; k++) {
            changed.store(from + k, next * power);
            next += by;
        }
        keep(now.withLog(h, s, changed));
        return answer(many);
    }

    public long none(int h, int s, int i) {
        Log log = gappyLogAt(h, s, i);
        if (log == null) {
            return REFUSED;
        }
        Log changed = log.twin();
        changed.gaps[i] = true;
        keep(now.withLog(h, s, changed));
        return answer(1);
    }

    public long endless(int h, int s, int i, boolean below) {
        Log log = gappyLogAt(h, s, i);
        if (log == null) {
            return REFUSED;
        }
        double beyondAll = 1e300 * 1e300;
        Log changed = log.twin();
        changed.store(i, below ? 0 - beyondAll : beyondAll);
        keep(now.withLog(h, s, changed));
        return answer(1);
    }

    public long copy(int h, int s, int at, int h2, int s2, int place, int n) {
        Log log = logAt(h, s);
        if (log == null) {
            return REFUSED;
        }
        Log other = logAt(h2, s2);
        if (other == null) {
            return REFUSED;
        }
        if (log.kind != other.kind) {
            return refuse(OTHER_KIND);
        }
        if (!log.hasAll(at, n) || !other.hasAll(place, n)) {
            return refuse(BEYOND);
        }
        Log changed = other.twin();
        System.arraycopy(log.values, at, changed.values, place, n);
        System.arraycopy(log.gaps, at, changed.gaps, place, n);
        keep(now.withLog(h2, s2, changed));
        return answer(n);
    }

    public long splice(int h, int from, int h2, int to, int n) {
        if (n < 0 || n > MOST_SLOTS) {
            return refuse(NOT_AS_TOLD);
        }
        if (holeAt(h) == null || holeAt(h2) == null) {
            return REFUSED;
        }
        Survey next = now;
        int came = 0;
        int why = 0;
        while (came < n && why == 0) {
            why = barToSplice(next.holes[h], from + came, to + came);
            if (why == 0) {
                next = next.withLog(h2, to + came, next.holes[h].slots[from + came]);
                came++;
            }
        }
        copiedLogs = came;
        if (why == 0 || came > 0) {
            keep(next);
        }
        return why == 0 ? answer(n) : refuse(why);
    }

    private static int barToSplice(Hole hole, int from, int to) {
        if (!isSlot(from) || !isSlot(to)) {
            return BEYOND;
        }
        return hole.slots[from] == null ? NOT_THERE : 0;
    }

    // ---- the window, layers and faults

    public long window(int n, int e, int length, boolean rises) {
        if (!isPower(e) || length < 1 || length > LONGEST_WINDOW) {
            return refuse(NOT_AS_TOLD);
        }
        keep(now.withWindow(new Window(n * powerOfTwo(e), length, rises)));
        return answer(1);
    }

    public long layer(int kind) {
        int count = now.layers.length;
        if (kind < BED || kind > MARKER || count >= MOST_LAYERS) {
            return refuse(NOT_AS_TOLD);
        }
        keep(now.withNewLayer(new Layer(kind)));
        return answer(count);
    }

    public long lay(int l, int h, int top) {
        if (top < NO_TOP || top > DEEPEST) {
            return refuse(NOT_AS_TOLD);
        }
        Layer layer = layerAt(l);
        if (layer == null || holeAt(h) == null) {
            return REFUSED;
        }
        if (layer.shifted) {
            return refuse(SHIFTED_OR_BROKEN);
        }
        return layInOrder(l, h, top);
    }

    public long pick(int l, int h, int s) {
        Layer layer = layerAt(l);
        if (layer == null) {
            return REFUSED;
        }
        Log log = logAt(h, s);
        if (log == null) {
            return REFUSED;
        }
        if (layer.shifted) {
            return refuse(SHIFTED_OR_BROKEN);
        }
        looked[layer.kind]++;
        int place = log.placeOf(layer.kind, now.window);
        if (place == NO_PLACE) {
            return refuse(LACKING);
        }
        int top = log.first + log.apart * place;
        if (top > DEEPEST) {
            return refuse(NOT_AS_TOLD);
        }
        return layInOrder(l, h, top);
    }

    private long layInOrder(int l, int h, int top) {
        if (!now.keepsOrder(l, h, top)) {
            return refuse(OUT_OF_ORDER);
        }
        keep(now.withHole(h, now.holes[h].withTop(l, top)));
        return answer(top);
    }

    public long line(int l, int a, int b, int c) {
        if (!isWithin(a, FARTHEST) || !isWithin(b, FARTHEST) || !isWithin(c, GREATEST_LINE)) {
            return refuse(NOT_AS_TOLD);
        }
        Layer fault = faultAt(l);
        if (fault == null) {
            return REFUSED;
        }
        if (fault.shifted) {
            return refuse(SHIFTED_OR_BROKEN);
        }
        keep(now.withLayer(l, fault.withLine(a, b, c), now.holes));
        return answer(1);
    }

    public long throwOf(int l, int by) {
        if (!isWithin(by, GREATEST_THROW)) {
            return refuse(NOT_AS_TOLD);
        }
        Layer fault = faultAt(l);
        if (fault == null) {
            return REFUSED;
        }
        if (fault.shifted) {
            return refuse(SHIFTED_OR_BROKEN);
        }
        keep(now.withLayer(l, fault.withThrow(by), now.holes));
        return answer(by);
    }

    public long shift(int l) {
        return slide(l, true);
    }

    public long back(int l) {
        return slide(l, false);
    }

    private long slide(int l, boolean forth) {
        Layer fault = faultAt(l);
        if (fault == null) {
            return REFUSED;
        }
        if (fault.shifted == forth) {
            return refuse(SHIFTED_OR_BROKEN);
        }
        Hole[] moved = now.holes.clone();
        int many = 0;
        for (int h = 0; h < now.holes.length; h++) {
            Hole hole = now.holes[h];
            int move = forth ? fault.moveOf(hole) : -fault.moveOf(hole);
            if (!now.canSlide(hole, l, move)) {
                return refuse(OUT_OF_ORDER);
            }
            many += now.countBelow(hole, l);
            moved[h] = now.slid(hole, l, move);
        }
        keep(now.withLayer(l, fault.withShift(forth), moved));
        return answer(many);
    }

    public long costs(int unlike, int stretched, int out) {
        if (!isCost(unlike) || !isCost(stretched) || !isCost(out)) {
            return refuse(NOT_AS_TOLD);
        }
        keep(now.withCosts(new Costs(unlike, stretched, out)));
        return answer(1);
    }

    public long triangle(int a, int b, int c) {
        Hole first = holeAt(a);
        if (first == null) {
            return REFUSED;
        }
        Hole second = holeAt(b);
        if (second == null) {
            return REFUSED;
        }
        Hole third = holeAt(c);
        if (third == null) {
            return REFUSED;
        }
        int count = now.triangles.length;
        Triangle made = new Triangle(new int[] {a, b, c}, first, second, third);
        if (made.twiceArea == 0 || count >= MOST_TRIANGLES || now.hasOneInto(made)) {
            return refuse(NOT_AS_TOLD);
        }
        keep(now.withNewTriangle(made));
        return answer(count);
    }

    public long undo() {
        if (pastCount == 0) {
            return answer(0);
        }
        pastCount--;
        now = past[pastCount];
        past[pastCount] = null;
        return answer(1);
    }

    // ---- what logs tell

    public long kind(int h, int s) {
        Hole hole = holeOfSlot(h, s);
        if (hole == null) {
            return REFUSED;
        }
        Log log = hole.slots[s];
        return answer(log == null ? 0 : log.kind);
    }

    public long length(int h, int s) {
        Log log = logAt(h, s);
        if (log == null) {
            return REFUSED;
        }
        return answer(log.values.length);
    }

    public long value(int h, int s, int i) {
        Log log = logAt(h, s);
        if (log == null) {
            return REFUSED;
        }
        if (!log.has(i)) {
            return refuse(BEYOND);
        }
        if (log.gaps[i]) {
            return refuse(LACKING);
        }
        return answer(log.wholePart(i));
    }

    public long part(int h, int s, int i, int n, int e, int which) {
        if (!isPower(e) || !isWhich(which)) {
            return refuse(NOT_AS_TOLD);
        }
        Log log = gappyLogAt(h, s, i);
        if (log == null) {
            return REFUSED;
        }
        if (!log.isPlain(i)) {
            return refuse(LACKING);
        }
        double by = log.asKind(n * powerOfTwo(e));
        if (by == 0) {
            return refuse(NOUGHT_TO_SHARE_BY);
        }
        double rest = remainder(log.values[i], by);
        return answer(which == 0 ? (long) log.asKind(log.values[i] - rest) : (long) rest);
    }

    public long mean(int h, int s) {
        Log log = logAt(h, s);
        if (log == null) {
            return REFUSED;
        }
        long sum = 0;
        int many = 0;
        for (int i = 0; i < log.values.length; i++) {
            if (log.isPlain(i)) {
                sum += log.wholePart(i);
                many++;
            }
        }
        if (many == 0) {
            return refuse(NOUGHT_TO_SHARE_BY);
        }
        return answer(sum / many);
    }

    public long copied() {
        return copiedLogs;
    }

    // ---- what layers tell

    public long top(int l, int h) {
        if (layerAt(l) == null) {
            return REFUSED;
        }
        Hole hole = holeAt(h);
        if (hole == null) {
            return REFUSED;
        }
        if (hole.tops[l] == NO_TOP) {
            return refuse(LACKING);
        }
        return answer(hole.tops[l]);
    }

    public long find(int l) {
        if (layerAt(l) == null) {
            return REFUSED;
        }
        int found = -1;
        int least = DEEPEST + 1;
        for (int h = 0; h < now.holes.length; h++) {
            int top = now.holes[h].tops[l];
            if (top != NO_TOP && top < least) {
                found = h;
                least = top;
            }
        }
        return found < 0 ? refuse(LACKING) : answer(found);
    }

    public long side(int l, int h) {
        Layer fault = faultAt(l);
        if (fault == null) {
            return REFUSED;
        }
        Hole hole = holeAt(h);
        if (hole == null) {
            return REFUSED;
        }
        return answer(fault.sideOf(hole.x, hole.y));
    }

    public long isShifted(int l) {
        Layer fault = faultAt(l);
        if (fault == null) {
            return REFUSED;
        }
        return answer(fault.shifted ? 1 : 0);
    }

    public long tell(int l) {
        Layer layer = layerAt(l);
        if (layer == null) {
            return REFUSED;
        }
        int many = 0;
        for (int h = 0; h < now.holes.length; h++) {
            if (now.holes[h].tops[l] != NO_TOP) {
                many++;
            }
        }
        return answer(1000 * layer.kind + many + (layer.kind == LENS ? 500 : 0));
    }

    public long drift(int h, int h2) {
        Hole hole = holeAt(h);
        if (hole == null) {
            return REFUSED;
        }
        Hole other = holeAt(h2);
        if (other == null) {
            return REFUSED;
        }
        long sum = 0;
        for (int l = 0; l < now.layers.length; l++) {
            if (hole.tops[l] != NO_TOP && other.tops[l] != NO_TOP) {
                sum += (long) WEIGHTS[now.layers[l].kind] * (other.tops[l] - hole.tops[l]);
            }
        }
        return answer(sum);
    }

    // ---- matching

    public long match(int h, int s, int h2, int s2) {
        Log log = codesAt(h, s);
        if (log == null) {
            return REFUSED;
        }
        Log other = codesAt(h2, s2);
        if (other == null) {
            return REFUSED;
        }
        if (log.values.length > MOST_MATCHED || other.values.length > MOST_MATCHED) {
            return refuse(NOT_AS_TOLD);
        }
        return answer(matcher.matchAndKeep(log, other, now.costs));
    }

    public long rows() {
        return matcher.rowCount;
    }

    public long row(int k) {
        if (k < 0 || k >= matcher.rowCount) {
            return refuse(BEYOND);
        }
        return answer(matcher.kept[k]);
    }

    public long check() {
        if (!matcher.hasMatched()) {
            return refuse(LACKING);
        }
        return answer(matcher.costOfKept(now.costs));
    }

    public long tree(int s) {
        if (!isSlot(s)) {
            return refuse(BEYOND);
        }
        treeSlot = s;
        edgeCount = 0;
        for (int h = 0; h < joined.length; h++) {
            joined[h] = false;
        }
        int root = firstWithCodes(s);
        if (root < 0) {
            return answer(0);
        }
        joined[root] = true;
        while (edgeCount < MOST_HOLES - 1 && joinNearest(s)) {
            edgeCount++;
        }
        return answer(edgeCount + 1);
    }

    private int firstWithCodes(int s) {
        for (int h = 0; h < now.holes.length; h++) {
            if (now.holes[h].hasCodes(s)) {
                return h;
            }
        }
        return -1;
    }

    private boolean joinNearest(int s) {
        int nearest = -1;
        int origin = -1;
        int least = 0;
        for (int h = 0; h < now.holes.length; h++) {
            if (joined[h] || !now.holes[h].hasCodes(s)) {
                continue;
            }
            for (int g = 0; g < now.holes.length; g++) {
                int far = joined[g] ? now.holes[h].squareTo(now.holes[g]) : 0;
                if (joined[g] && (nearest < 0 || far < least)) {
                    nearest = h;
                    origin = g;
                    least = far;
                }
            }
        }
        if (nearest < 0) {
            return false;
        }
        joined[nearest] = true;
        edges[edgeCount] = 100 * nearest + origin;
        return true;
    }

    public long edge(int k) {
        if (k < 0 || k >= edgeCount) {
            return refuse(BEYOND);
        }
        return answer(edges[k]);
    }

    public long along() {
        if (treeSlot == NO_TREE) {
            return refuse(LACKING);
        }
        long sum = 0;
        for (int k = 0; k < edgeCount; k++) {
            Log log = codesOfTree(edges[k] / 100);
            if (log == null) {
                return REFUSED;
            }
            Log other = codesOfTree(edges[k] % 100);
            if (other == null) {
                return REFUSED;
            }
            sum += matcher.leastCost(log, other, now.costs);
        }
        return answer(sum);
    }

    private Log codesOfTree(int h) {
        Log log = h < now.holes.length ? now.holes[h].slots[treeSlot] : null;
        if (log == null) {
            status = NOT_THERE;
            return null;
        }
        if (log.kind != CODES) {
            status = OTHER_KIND;
            return null;
        }
        if (log.values.length > MOST_MATCHED) {
            status = NOT_AS_TOLD;
            return null;
        }
        return log;
    }

    // ---- surfaces

    public long triangles() {
        return now.triangles.length;
    }

    public long isBroken(int t) {
        Triangle triangle = triangleAt(t);
        if (triangle == null) {
            return REFUSED;
        }
        return answer(now.breaks(triangle) ? 1 : 0);
    }

    public long height(int l, int x, int y, int which) {
        if (!isOnMap(x, y) || !isWhich(which)) {
            return refuse(NOT_AS_TOLD);
        }
        if (layerAt(l) == null) {
            return REFUSED;
        }
        Triangle triangle = wholeTriangleOver(x, y);
        if (triangle == null) {
            return REFUSED;
        }
        if (!now.hasTops(triangle, l)) {
            return refuse(LACKING);
        }
        return answer(partOfFraction(now.weighedTops(triangle, l, x, y), triangle.twiceArea, which));
    }

    public long thickness(int l, int m, int x, int y, int which) {
        if (!isOnMap(x, y) || !isWhich(which)) {
            return refuse(NOT_AS_TOLD);
        }
        if (layerAt(l) == null || layerAt(m) == null) {
            return REFUSED;
        }
        Triangle triangle = wholeTriangleOver(x, y);
        if (triangle == null) {
            return REFUSED;
        }
        if (!now.hasTops(triangle, l) || !now.hasTops(triangle, m)) {
            return refuse(LACKING);
        }
        long upper = now.weighedTops(triangle, m, x, y) - now.weighedTops(triangle, l, x, y);
        return answer(partOfFraction(upper, triangle.twiceArea, which));
    }

    public long volumeOf(int t, int l, int m) {
        if (layerAt(l) == null || layerAt(m) == null) {
            return REFUSED;
        }
        Triangle triangle = triangleAt(t);
        if (triangle == null) {
            return REFUSED;
        }
        if (now.breaks(triangle)) {
            return refuse(SHIFTED_OR_BROKEN);
        }
        if (!now.hasTops(triangle, l) || !now.hasTops(triangle, m)) {
            return refuse(LACKING);
        }
        return answer(now.sixthsBetween(triangle, l, m));
    }

    public long volume(int l, int m) {
        if (layerAt(l) == null || layerAt(m) == null) {
            return REFUSED;
        }
        long sum = 0;
        for (int t = 0; t < now.triangles.length; t++) {
            Triangle triangle = now.triangles[t];
            if (!now.breaks(triangle) && now.hasTops(triangle, l) && now.hasTops(triangle, m)) {
                sum += now.sixthsBetween(triangle, l, m);
            }
        }
        return answer(sum);
    }

    // ---- the desk itself

    public long ran(int kind) {
        return kind < BED || kind > MARKER ? 0 : looked[kind];
    }

    public long status() {
        return status;
    }

    public long digest() {
        long d = now.digestOn(11);
        for (int k = 0; k < looked.length; k++) {
            d = mixed(d, looked[k]);
        }
        return mixed(d, copiedLogs);
    }

    private long answer(long what) {
        status = 0;
        return what;
    }

    private long refuse(int why) {
        status = why;
        return REFUSED;
    }

    private void keep(Survey next) {
        if (pastCount == MOST_CALLS) {
            // Only an object used beyond its last promised call comes here: it forgets its oldest change.
            System.arraycopy(past, 1, past, 0, MOST_CALLS - 1);
            pastCount--;
        }
        past[pastCount] = now;
        pastCount++;
        now = next;
    }

    // ---- what a call names: null, and the status that tells why, if it can't be had

    private boolean wasMade(int number, int most, int made) {
        if (number < 0 || number >= most) {
            status = BEYOND;
            return false;
        }
        if (number >= made) {
            status = NOT_THERE;
            return false;
        }
        return true;
    }

    private Hole holeAt(int h) {
        return wasMade(h, MOST_HOLES, now.holes.length) ? now.holes[h] : null;
    }

    private Hole holeOfSlot(int h, int s) {
        Hole hole = holeAt(h);
        if (hole != null && !isSlot(s)) {
            status = BEYOND;
            return null;
        }
        return hole;
    }

    private Log logAt(int h, int s) {
        Hole hole = holeOfSlot(h, s);
        if (hole == null) {
            return null;
        }
        if (hole.slots[s] == null) {
            status = NOT_THERE;
        }
        return hole.slots[s];
    }

    /** A LOG whose VALUES may be NONE, and that has VALUE i. */
    private Log gappyLogAt(int h, int s, int i) {
        Log log = logAt(h, s);
        if (log == null) {
            return null;
        }
        if (log.kind != DOUBLES && log.kind != FLOATS) {
            status = OTHER_KIND;
            return null;
        }
        if (!log.has(i)) {
            status = BEYOND;
            return null;
        }
        return log;
    }

    private Log codesAt(int h, int s) {
        Log log = logAt(h, s);
        if (log != null && log.kind != CODES) {
            status = OTHER_KIND;
            return null;
        }
        return log;
    }

    private Layer layerAt(int l) {
        return wasMade(l, MOST_LAYERS, now.layers.length) ? now.layers[l] : null;
    }

    private Layer faultAt(int l) {
        Layer layer = layerAt(l);
        if (layer != null && layer.isBed()) {
            status = OTHER_KIND;
            return null;
        }
        return layer;
    }

    private Triangle triangleAt(int t) {
        return wasMade(t, MOST_TRIANGLES, now.triangles.length) ? now.triangles[t] : null;
    }

    private Triangle wholeTriangleOver(int x, int y) {
        Triangle triangle = now.firstOver(x, y);
        if (triangle == null) {
            status = LACKING;
            return null;
        }
        if (now.breaks(triangle)) {
            status = SHIFTED_OR_BROKEN;
            return null;
        }
        return triangle;
    }

    // ---- numbers

    private static boolean isWithin(int number, int most) {
        return number >= -most && number <= most;
    }

    private static boolean isOnMap(int x, int y) {
        return isWithin(x, FARTHEST) && isWithin(y, FARTHEST);
    }

    private static boolean isPower(int e) {
        return isWithin(e, GREATEST_POWER);
    }

    private static boolean isSlot(int s) {
        return s >= 0 && s < MOST_SLOTS;
    }

    private static boolean isCost(int cost) {
        return cost >= 0 && cost <= GREATEST_COST;
    }

    private static boolean isWhich(int which) {
        return which == 0 || which == 1;
    }

    private static long mixed(long d, long x) {
        return d * 31 + x;
    }

    private static double powerOfTwo(int e) {
        double base = e < 0 ? 0.5 : 2;
        int times = Math.min(Math.abs(e), GREATEST_POWER);
        double power = 1;
        for (int k = 0; k < times; k++) {
            power = power * base;
        }
        return power;
    }

    private static double sizeOf(double number) {
        return number < 0 ? 0 - number : number;
    }

    /**
     * Long division in base two. Doubling and halving are exact here, and so is each difference, as what
     * is left is then from one to two times what is taken from it: nothing is rounded on the way.
     */
    private static double remainder(double number, double by) {
        double left = sizeOf(number);
        double taken = sizeOf(by);
        int doubled = 0;
        while (doubled < 1000 && taken + taken <= left) {
            taken = taken + taken;
            doubled++;
        }
        for (int k = 0; k <= doubled; k++) {
            if (taken <= left) {
                left = left - taken;
            }
            taken = taken / 2;
        }
        return number < 0 ? 0 - left : left;
    }

    private static long partOfFraction(long upper, long lower, int which) {
        long common = commonDivisor(Math.abs(upper), lower);
        if (common == 0) {
            return 0;
        }
        return (which == 0 ? upper : lower) / common;
    }

    private static long commonDivisor(long one, long other) {
        long greater = one;
        long lesser = other;
        for (int k = 0; k < 1000 && lesser != 0; k++) {
            long rest = greater % lesser;
            greater = lesser;
            lesser = rest;
        }
        return greater;
    }

    /** The VALUES of a SLOT. Those of each KIND are doubles here, which hold all of every KIND exactly. */
    private static final class Log {
        final int kind;
        final int first;
        final int apart;
        final double[] values;
        /** Where VALUES are NONE: told apart from the numbers, so that no sum ever meets a not-a-number. */
        final boolean[] gaps;

        Log(int kind, int many) {
            this(kind, 0, 100, new double[many], new boolean[many]);
        }

        private Log(int kind, int first, int apart, double[] values, boolean[] gaps) {
            this.kind = kind;
            this.first = first;
            this.apart = apart;
            this.values = values;
            this.gaps = gaps;
        }

        Log twin() {
            return new Log(kind, first, apart, values.clone(), gaps.clone());
        }

        Log movedTo(int at, int step) {
            return new Log(kind, at, step, values, gaps);
        }

        boolean has(int i) {
            return i >= 0 && i < values.length;
        }

        boolean hasAll(int from, int many) {
            return many >= 0 && from >= 0 && from <= values.length - many;
        }

        void store(int i, double number) {
            values[i] = asKind(number);
            gaps[i] = false;
        }

        double asKind(double number) {
            switch (kind) {
                case FLOATS:
                    return (float) number;
                case SHORTS:
                    return (short) (int) number;
                case CODES:
                    return (char) (int) number;
                default:
                    return number;
            }
        }

        long wholePart(int i) {
            return (long) values[i];
        }

        /** Neither NONE nor ENDLESS: no NUMBER comes near the bound. */
        boolean isPlain(int i) {
            return !gaps[i] && sizeOf(values[i]) < 1e300;
        }

        int placeOf(int layerKind, Window window) {
            switch (layerKind) {
                case BED:
                    return firstCrossing(window);
                case LENS:
                    return lastCrossing(window);
                case FAULT:
                    return greatestJump(false);
                case CUT:
                    return greatestJump(true);
                default:
                    return greatest();
            }
        }

        private int firstCrossing(Window window) {
            for (int i = 0; i < values.length; i++) {
                if (crosses(i, window)) {
                    return i;
                }
            }
            return NO_PLACE;
        }

        private int lastCrossing(Window window) {
            for (int i = values.length - 1; i >= 0; i--) {
                if (crosses(i, window)) {
                    return i;
                }
            }
            return NO_PLACE;
        }

        private boolean crosses(int i, Window window) {
            if (i < window.span || i > values.length - window.span) {
                return false;
            }
            double mark = kind == FLOATS ? (float) window.mark : window.mark;
            for (int k = 0; k < window.span; k++) {
                if (!lies(i - 1 - k, mark, window.upward) || !lies(i + k, mark, !window.upward)) {
                    return false;
                }
            }
            return true;
        }

        private boolean lies(int i, double mark, boolean below) {
            return !gaps[i] && (values[i] < mark) == below;
        }

        private int greatestJump(boolean last) {
            int place = NO_PLACE;
            double greatest = -1;
            for (int i = 1; i < values.length; i++) {
                if (!isPlain(i) || !isPlain(i - 1)) {
                    continue;
                }
                double jump = sizeOf(values[i] - values[i - 1]);
                if (jump > greatest || (last && jump == greatest)) {
                    place = i;
                    greatest = jump;
                }
            }
            return place;
        }

        private int greatest() {
            int place = NO_PLACE;
            for (int i = 0; i < values.length; i++) {
                if (!gaps[i] && (place == NO_PLACE || values[i] > values[place])) {
                    place = i;
                }
            }
            return place;
        }

        long digestOn(long before) {
            long d = mixed(mixed(mixed(before, first), apart), values.length);
            for (int i = 0; i < values.length; i++) {
                d = mixed(d, gaps[i] ? DIGEST_OF_NONE : wholePart(i));
            }
            return d;
        }
    }

    private static final class Hole {
        final int x;
        final int y;
        final Log[] slots;
        final int[] tops;

        Hole(int x, int y) {
            this(x, y, new Log[MOST_SLOTS], new int[MOST_LAYERS]);
            Arrays.fill(tops, NO_TOP);
        }

        private Hole(int x, int y, Log[] slots, int[] tops) {
            this.x = x;
            this.y = y;
            this.slots = slots;
            this.tops = tops;
        }

        Hole withLog(int s, Log log) {
            Log[] changed = slots.clone();
            changed[s] = log;
            return new Hole(x, y, changed, tops);
        }

        Hole withTop(int l, int top) {
            int[] changed = tops.clone();
            changed[l] = top;
            return new Hole(x, y, slots, changed);
        }

        Hole withTops(int[] changed) {
            return new Hole(x, y, slots, changed);
        }

        boolean hasCodes(int s) {
            return slots[s] != null && slots[s].kind == CODES;
        }

        int squareTo(Hole other) {
            return (x - other.x) * (x - other.x) + (y - other.y) * (y - other.y);
        }

        long digestOn(long before, int layerCount) {
            long d = mixed(mixed(before, x), y);
            for (int s = 0; s < MOST_SLOTS; s++) {
                Log log = slots[s];
                d = log == null ? mixed(d, 0) : log.digestOn(mixed(d, log.kind));
            }
            for (int l = 0; l < layerCount; l++) {
                d = mixed(d, tops[l]);
            }
            return d;
        }
    }

    private static final class Layer {
        final int kind;
        final int a;
        final int b;
        final int c;
        final int fling;
        final boolean shifted;

        Layer(int kind) {
            this(kind, 0, 0, 0, 0, false);
        }

        private Layer(int kind, int a, int b, int c, int fling, boolean shifted) {
            this.kind = kind;
            this.a = a;
            this.b = b;
            this.c = c;
            this.fling = fling;
            this.shifted = shifted;
        }

        Layer withLine(int newA, int newB, int newC) {
            return new Layer(kind, newA, newB, newC, fling, shifted);
        }

        Layer withThrow(int by) {
            return new Layer(kind, a, b, c, by, shifted);
        }

        Layer withShift(boolean now) {
            return new Layer(kind, a, b, c, fling, now);
        }

        boolean isBed() {
            return kind != FAULT && kind != CUT;
        }

        int sideOf(int x, int y) {
            return Integer.compare(a * x + b * y, c);
        }

        int moveOf(Hole hole) {
            int onSide = sideOf(hole.x, hole.y);
            if (onSide == 1) {
                return fling;
            }
            return onSide == -1 && kind == CUT ? -fling : 0;
        }

        long digestOn(long before) {
            long d = mixed(before, kind);
            if (isBed()) {
                return d;
            }
            d = mixed(mixed(mixed(d, a), b), c);
            return mixed(mixed(d, fling), shifted ? 1 : 0);
        }
    }

    /** Three HOLES and where they stand, which never changes while the TRIANGLE is there. */
    private static final class Triangle {
        final int[] corners;
        final int[] xs;
        final int[] ys;
        final int turn;
        final long twiceArea;

        Triangle(int[] corners, Hole first, Hole second, Hole third) {
            this.corners = corners;
            xs = new int[] {first.x, second.x, third.x};
            ys = new int[] {first.y, second.y, third.y};
            long turned = turnTo(0, first.x, first.y);
            turn = Long.compare(turned, 0);
            twiceArea = Math.abs(turned);
        }

        /** Twice the area, with its sign, of the triangle of a point and the edge across from corner k. */
        private long turnTo(int k, int x, int y) {
            int p = k == 2 ? 0 : k + 1;
            int q = p == 2 ? 0 : p + 1;
            return (long) (xs[p] - x) * (ys[q] - y) - (long) (ys[p] - y) * (xs[q] - x);
        }

        /** How much corner k counts at a point: above 0 on its side of the edge across from it. */
        long weightOf(int k, int x, int y) {
            return turn * turnTo(k, x, y);
        }

        boolean covers(int x, int y) {
            return weightOf(0, x, y) >= 0 && weightOf(1, x, y) >= 0 && weightOf(2, x, y) >= 0;
        }

        /** Two triangles have no point inside both just if an edge of one of them has the other one beyond it. */
        boolean runsInto(Triangle other) {
            return !hasBeyondAnEdge(other) && !other.hasBeyondAnEdge(this);
        }

        private boolean hasBeyondAnEdge(Triangle other) {
            for (int k = 0; k < 3; k++) {
                boolean beyond = true;
                for (int c = 0; c < 3; c++) {
                    beyond = beyond && weightOf(k, other.xs[c], other.ys[c]) <= 0;
                }
                if (beyond) {
                    return true;
                }
            }
            return false;
        }
    }

    private static final class Window {
        final double mark;
        final int span;
        final boolean upward;

        Window(double mark, int span, boolean upward) {
            this.mark = mark;
            this.span = span;
            this.upward = upward;
        }

        long digestOn(long before) {
            return mixed(mixed(mixed(before, span), upward ? 1 : 0), (long) mark);
        }
    }

    private static final class Costs {
        final int unlike;
        final int stretched;
        final int out;

        Costs(int unlike, int stretched, int out) {
            this.unlike = unlike;
            this.stretched = stretched;
            this.out = out;
        }

        long digestOn(long before) {
            return mixed(mixed(mixed(before, unlike), stretched), out);
        }
    }

    /** All that undo() takes back, as it is at one time. */
    private static final class Survey {
        final Hole[] holes;
        final Layer[] layers;
        final Triangle[] triangles;
        final Window window;
        final Costs costs;

        Survey(Hole[] holes, Layer[] layers, Triangle[] triangles, Window window, Costs costs) {
            this.holes = holes;
            this.layers = layers;
            this.triangles = triangles;
            this.window = window;
            this.costs = costs;
        }

        Survey withNewHole(Hole hole) {
            Hole[] more = new Hole[holes.length + 1];
            System.arraycopy(holes, 0, more, 0, holes.length);
            more[holes.length] = hole;
            return new Survey(more, layers, triangles, window, costs);
        }

        Survey withHole(int h, Hole hole) {
            Hole[] changed = holes.clone();
            changed[h] = hole;
            return new Survey(changed, layers, triangles, window, costs);
        }

        Survey withLog(int h, int s, Log log) {
            return withHole(h, holes[h].withLog(s, log));
        }

        Survey withNewLayer(Layer layer) {
            Layer[] more = new Layer[layers.length + 1];
            System.arraycopy(layers, 0, more, 0, layers.length);
            more[layers.length] = layer;
            return new Survey(holes, more, triangles, window, costs);
        }

        Survey withLayer(int l, Layer layer, Hole[] moved) {
            Layer[] changed = layers.clone();
            changed[l] = layer;
            return new Survey(moved, changed, triangles, window, costs);
        }

        Survey withNewTriangle(Triangle triangle) {
            Triangle[] more = new Triangle[triangles.length + 1];
            System.arraycopy(triangles, 0, more, 0, triangles.length);
            more[triangles.length] = triangle;
            return new Survey(holes, layers, more, window, costs);
        }

        Survey withWindow(Window changed) {
            return new Survey(holes, layers, triangles, changed, costs);
        }

        Survey withCosts(Costs changed) {
            return new Survey(holes, layers, triangles, window, changed);
        }

        boolean hasHoleAt(int x, int y) {
            for (int h = 0; h < holes.length; h++) {
                if (holes[h].x == x && holes[h].y == y) {
                    return true;
                }
            }
            return false;
        }

        boolean keepsOrder(int l, int h, int top) {
            if (top == NO_TOP || !layers[l].isBed()) {
                return true;
            }
            int[] tops = holes[h].tops;
            for (int k = 0; k < layers.length; k++) {
                boolean counts = layers[k].isBed() && tops[k] != NO_TOP;
                if (counts && (k < l && tops[k] > top || k > l && tops[k] < top)) {
                    return false;
                }
            }
            return true;
        }

        /** Whether FAULT l has a TOP in a HOLE, and LAYER k is a BED whose TOP there is greater. */
        private boolean isBelow(Hole hole, int k, int l) {
            return hole.tops[l] != NO_TOP && layers[k].isBed() && hole.tops[k] > hole.tops[l];
        }

        int countBelow(Hole hole, int l) {
            int many = 0;
            for (int k = 0; k < layers.length; k++) {
                if (isBelow(hole, k, l)) {
                    many++;
                }
            }
            return many;
        }

        boolean canSlide(Hole hole, int l, int move) {
            for (int k = 0; k < layers.length; k++) {
                int top = hole.tops[k] + move;
                if (isBelow(hole, k, l) && (top <= hole.tops[l] || top > DEEPEST)) {
                    return false;
                }
            }
            return true;
        }

        Hole slid(Hole hole, int l, int move) {
            int[] tops = hole.tops.clone();
            for (int k = 0; k < layers.length; k++) {
                if (isBelow(hole, k, l)) {
                    tops[k] += move;
                }
            }
            return hole.withTops(tops);
        }

        boolean hasOneInto(Triangle made) {
            for (int t = 0; t < triangles.length; t++) {
                if (triangles[t].runsInto(made)) {
                    return true;
                }
            }
            return false;
        }

        Triangle firstOver(int x, int y) {
            for (int t = 0; t < triangles.length; t++) {
                if (triangles[t].covers(x, y)) {
                    return triangles[t];
                }
            }
            return null;
        }

        boolean breaks(Triangle triangle) {
            for (int l = 0; l < layers.length; l++) {
                if (!layers[l].isBed() && parts(layers[l], triangle)) {
                    return true;
                }
            }
            return false;
        }

        private static boolean parts(Layer fault, Triangle triangle) {
            boolean over = false;
            boolean under = false;
            for (int k = 0; k < 3; k++) {
                int onSide = fault.sideOf(triangle.xs[k], triangle.ys[k]);
                over = over || onSide == 1;
                under = under || onSide == -1;
            }
            return over && under;
        }

        boolean hasTops(Triangle triangle, int l) {
            for (int k = 0; k < 3; k++) {
                if (topAtCorner(triangle, k, l) == NO_TOP) {
                    return false;
                }
            }
            return true;
        }

        private int topAtCorner(Triangle triangle, int k, int l) {
            int h = triangle.corners[k];
            return h < holes.length ? holes[h].tops[l] : NO_TOP;
        }

        /** A LAYER's HEIGHT at a point, times twice the area. */
        long weighedTops(Triangle triangle, int l, int x, int y) {
            long sum = 0;
            for (int k = 0; k < 3; k++) {
                sum += triangle.weightOf(k, x, y) * topAtCorner(triangle, k, l);
            }
            return sum;
        }

        long sixthsBetween(Triangle triangle, int l, int m) {
            long sum = 0;
            for (int k = 0; k < 3; k++) {
                sum += topAtCorner(triangle, k, m) - topAtCorner(triangle, k, l);
            }
            return triangle.twiceArea * sum;
        }

        long digestOn(long before) {
            long d = mixed(before, holes.length);
            for (int h = 0; h < holes.length; h++) {
                d = holes[h].digestOn(d, layers.length);
            }
            for (int l = 0; l < layers.length; l++) {
                d = layers[l].digestOn(d);
            }
            d = mixed(d, triangles.length);
            for (int t = 0; t < triangles.length; t++) {
                int[] corners = triangles[t].corners;
                d = mixed(mixed(mixed(d, corners[0]), corners[1]), corners[2]);
            }
            return window.digestOn(costs.digestOn(d));
        }
    }

    /** Matches two LOGS of codes; its rows are made once and used for each MATCH again. */
    private static final class Matcher {
        private static final int WIDTH = MOST_MATCHED + 1;

        private final int[] ones;
        private final int[] others;
        private int oneCount;
        private int otherCount;
        /** The least COST of the first i and the first j VALUES stands at i * WIDTH + j. */
        private final int[] least;

        private Log keptOne;
        private Log keptOther;
        final int[] kept;
        int rowCount;

        Matcher() {
            ones = new int[MOST_MATCHED];
            others = new int[MOST_MATCHED];
            least = new int[WIDTH * WIDTH];
            kept = new int[2 * MOST_MATCHED];
        }

        boolean hasMatched() {
            return keptOne != null && keptOther != null;
        }

        long matchAndKeep(Log one, Log other, Costs costs) {
            long cost = leastCost(one, other, costs);
            keptOne = one;
            keptOther = other;
            traceRows(costs);
            return cost;
        }

        long leastCost(Log one, Log other, Costs costs) {
            load(one, other);
            least[0] = 0;
            for (int i = 1; i <= oneCount; i++) {
                least[i * WIDTH] = least[(i - 1) * WIDTH] + costLeftOut(ones, i - 1, costs);
            }
            for (int j = 1; j <= otherCount; j++) {
                least[j] = least[j - 1] + costLeftOut(others, j - 1, costs);
            }
            for (int i = 1; i <= oneCount; i++) {
                weighRow(i, costs);
            }
            return least[oneCount * WIDTH + otherCount];
        }

        private void load(Log one, Log other) {
            oneCount = loadInto(ones, one);
            otherCount = loadInto(others, other);
        }

        private static int loadInto(int[] row, Log log) {
            int many = Math.min(log.values.length, row.length);
            for (int i = 0; i < many; i++) {
                row[i] = (int) log.wholePart(i);
            }
            return many;
        }

        private void weighRow(int i, Costs costs) {
            int outOne = costLeftOut(ones, i - 1, costs);
            for (int j = 1; j <= otherCount; j++) {
                int at = i * WIDTH + j;
                int paired = least[at - WIDTH - 1] + costOfPair(i, j, costs);
                int leftOne = least[at - WIDTH] + outOne;
                int leftOther = least[at - 1] + costLeftOut(others, j - 1, costs);
                least[at] = Math.min(paired, Math.min(leftOne, leftOther));
            }
        }

        /** COST of a PAIR of the i-th and the j-th, counted from 1 on. */
        private int costOfPair(int i, int j, Costs costs) {
            return ones[i - 1] == others[j - 1] ? 0 : costs.unlike;
        }

        private static int costLeftOut(int[] row, int i, Costs costs) {
            return i > 0 && row[i - 1] == row[i] ? costs.stretched : costs.out;
        }

        /** From the last ROW on, as the last one is the one that is chosen first. */
        private void traceRows(Costs costs) {
            int i = oneCount;
            int j = otherCount;
            rowCount = 0;
            while (i + j > 0 && rowCount < kept.length) {
                boolean pairs = endsInPair(i, j, costs);
                boolean leaves = !pairs && endsInFirst(i, j, costs);
                int onesPart = pairs || leaves ? i : 0;
                int othersPart = leaves ? 0 : j;
                kept[rowCount] = 1000 * onesPart + othersPart;
                rowCount++;
                i -= onesPart > 0 ? 1 : 0;
                j -= othersPart > 0 ? 1 : 0;
            }
            turnRows();
        }

        private boolean endsInPair(int i, int j, Costs costs) {
            if (i == 0 || j == 0) {
                return false;
            }
            int at = i * WIDTH + j;
            return least[at] == least[at - WIDTH - 1] + costOfPair(i, j, costs);
        }

        private boolean endsInFirst(int i, int j, Costs costs) {
            if (i == 0) {
                return false;
            }
            int at = i * WIDTH + j;
            return least[at] == least[at - WIDTH] + costLeftOut(ones, i - 1, costs);
        }

        private void turnRows() {
            for (int k = 0; k < rowCount / 2; k++) {
                int early = kept[k];
                kept[k] = kept[rowCount - 1 - k];
                kept[rowCount - 1 - k] = early;
            }
        }

        long costOfKept(Costs costs) {
            load(keptOne, keptOther);
            long sum = 0;
            for (int k = 0; k < rowCount; k++) {
                int i = kept[k] / 1000;
                int j = kept[k] % 1000;
                if (i > 0 && j > 0) {
                    sum += costOfPair(i, j, costs);
                } else if (i > 0) {
                    sum += costLeftOut(ones, i - 1, costs);
                } else if (j > 0) {
                    sum += costLeftOut(others, j - 1, costs);
                }
            }
            return sum;
        }
    }
}
