import java.util.Random;

/**
 * Promises 11 to 15, 20 and 30 to 32 against the language's own doubles, floats, shorts and chars, with
 * its not-a-numbers, its infinities and its remainder.
 */
public final class LogsTest {
    private static final int SLOTS = 6;
    private static final int[] KINDS = {1, 2, 3, 4, 1, 2};

    private final Random random;
    private final BoreDesk desk = new BoreDesk();
    private final double[][] logs = new double[SLOTS][];

    private LogsTest(long seed) {
        random = new Random(seed);
    }

    public static void main(String[] args) {
        for (int seed = 0; seed < 400; seed++) {
            LogsTest test = new LogsTest(seed);
            test.begin();
            for (int k = 0; k < 60; k++) {
                test.change();
                test.look();
            }
        }
        Script.finish();
    }

    private void begin() {
        desk.hole(0, 0);
        for (int kind = 0; kind < 5; kind++) {
            desk.layer(kind);
        }
        for (int s = 0; s < SLOTS; s++) {
            int many = 1 + random.nextInt(12);
            logs[s] = new double[many];
            switch (KINDS[s]) {
                case 1:
                    desk.doubles(0, s, many);
                    break;
                case 2:
                    desk.floats(0, s, many);
                    break;
                case 3:
                    desk.shorts(0, s, many);
                    break;
                default:
                    desk.feed(0, 0, 0, 0, 0);
                    desk.end(many);
                    desk.codes(0, s);
            }
        }
    }

    private int someNumber() {
        switch (random.nextInt(4)) {
            case 0:
                return random.nextInt();
            case 1:
                return random.nextInt(9) - 4;
            case 2:
                return random.nextInt(70000) - 35000;
            default:
                return Integer.MIN_VALUE >> random.nextInt(32);
        }
    }

    private int somePower() {
        return random.nextBoolean() ? 0 : random.nextInt(random.nextBoolean() ? 401 : 9) - (random.nextBoolean() ? 4 : 0);
    }

    private int power() {
        int e = somePower();
        return e > 200 ? e - 401 : e;
    }

    private static double number(long n, int e) {
        return n * Math.pow(2, e);
    }

    private static double as(int kind, double number) {
        switch (kind) {
            case 2:
                return (float) number;
            case 3:
                return (short) (int) number;
            case 4:
                return (char) (int) number;
            default:
                return number;
        }
    }

    private void change() {
        int s = random.nextInt(SLOTS);
        double[] log = logs[s];
        int i = random.nextInt(log.length);
        int n = someNumber();
        int e = power();
        switch (random.nextInt(6)) {
            case 0:
                log[i] = as(KINDS[s], number(n, e));
                Script.due("put", desk.put(0, s, i, n, e), (long) log[i]);
                break;
            case 1:
                int by = someNumber();
                int many = random.nextInt(log.length - i + 1);
                for (int k = 0; k < many; k++) {
                    log[i + k] = as(KINDS[s], number(n + (long) by * k, e));
                }
                Script.due("fill", desk.fill(0, s, i, many, n, e, by), many);
                break;
            case 2:
                if (KINDS[s] < 3) {
                    log[i] = Double.NaN;
                    Script.due("none", desk.none(0, s, i), 1);
                }
                break;
            case 3:
                if (KINDS[s] < 3 && random.nextInt(3) == 0) {
                    boolean below = random.nextBoolean();
                    log[i] = below ? Double.NEGATIVE_INFINITY : Double.POSITIVE_INFINITY;
                    Script.due("endless", desk.endless(0, s, i, below), 1);
                }
                break;
            case 4:
                int s2 = random.nextInt(SLOTS);
                int place = random.nextInt(logs[s2].length);
                int most = Math.min(log.length - i, logs[s2].length - place);
                boolean like = KINDS[s] == KINDS[s2];
                int all = random.nextInt(most + 1);
                if (like) {
                    System.arraycopy(log, i, logs[s2], place, all);
                }
                Script.due("copy", desk.copy(0, s, i, 0, s2, place, all), like ? all : -1);
                break;
            default:
                span = 1 + random.nextInt(3);
                rises = random.nextBoolean();
                int m = random.nextInt(4) == 0 ? n : random.nextInt(5) - 2;
                int power = random.nextInt(4) == 0 ? e : 0;
                mark = number(m, power);
                Script.due("window", desk.window(m, power, span, rises), 1);
        }
    }

    private double mark = 0;
    private int span = 1;
    private boolean rises = true;

    private void look() {
        int s = random.nextInt(SLOTS);
        double[] log = logs[s];
        int i = random.nextInt(log.length);
        Script.due("value", desk.value(0, s, i), Double.isNaN(log[i]) ? -1 : (long) log[i]);
        lookAtMean(s);
        lookAtPart(s, i);
        for (int l = 0; l < 5; l++) {
            desk.lay(l, 0, -1);
            int place = place(l, s);
            Script.due("pick " + l, desk.pick(l, 0, s), place < 0 ? -1 : 100 * place);
            desk.lay(l, 0, -1);
        }
    }

    private void lookAtMean(int s) {
        long sum = 0;
        int many = 0;
        for (double v : logs[s]) {
            if (Double.isFinite(v)) {
                sum += (long) v;
                many++;
            }
        }
        Script.due("mean", desk.mean(0, s), many == 0 ? -1 : sum / many);
        Script.due("mean's status", desk.status(), many == 0 ? 5 : 0);
    }

    private void lookAtPart(int s, int i) {
        int n = someNumber();
        int e = power();
        double v = logs[s][i];
        long whole;
        long rest;
        boolean nought;
        if (KINDS[s] == 2) {
            float t = (float) number(n, e);
            float r = (float) v % t;
            whole = (long) ((float) v - r);
            rest = (long) r;
            nought = t == 0;
        } else {
            double t = number(n, e);
            double r = v % t;
            whole = (long) (v - r);
            rest = (long) r;
            nought = t == 0;
        }
        int why = KINDS[s] > 2 ? 3 : !Double.isFinite(v) ? 9 : nought ? 5 : 0;
        Script.due("part 0", desk.part(0, s, i, n, e, 0), why == 0 ? whole : -1);
        Script.due("part 1", desk.part(0, s, i, n, e, 1), why == 0 ? rest : -1);
        Script.due("part's status", desk.status(), why);
    }

    private int place(int layer, int s) {
        double[] log = logs[s];
        double bound = KINDS[s] == 2 ? (float) mark : mark;
        int place = -1;
        double best = Double.NaN;
        for (int i = 0; i < log.length; i++) {
            if (layer < 2) {
                boolean crosses = i >= span && i + span <= log.length;
                for (int k = i - span; crosses && k < i + span; k++) {
                    crosses = (k < i) == rises ? log[k] < bound : log[k] >= bound;
                }
                place = crosses && (layer == 1 || place < 0) ? i : place;
            } else if (layer < 4) {
                double jump = i == 0 ? Double.NaN : Math.abs(log[i] - log[i - 1]);
                if (Double.isFinite(jump) && (place < 0 || jump > best || layer == 3 && jump == best)) {
                    place = i;
                    best = jump;
                }
            } else if (!Double.isNaN(log[i]) && (place < 0 || log[i] > best)) {
                place = i;
                best = log[i];
            }
        }
        return place;
    }
}
