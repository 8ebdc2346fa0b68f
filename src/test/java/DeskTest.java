/** Promises 53 to 55: ran, status, digest. */
public final class DeskTest {
    private static long d;

    public static void main(String[] args) {
        statuses();
        digestOfNothing();
        digestOfAll();
        Script.finish();
    }

    private static void statuses() {
        Script.run("Promise 54: status is that of the latest call, and some calls leave it", """
            status() = 0
            end(1) ! 2
            status() = 2
            status() = 2
            ran(0) = 0
            ran(-7) = 0
            rows() = 0
            triangles() = 0
            copied() = 0
            status() = 2
            undo() = 0
            status() = 0
            hole(5000, 0) ! 6
            kind(0, 0) ! 1
            hole(0, 0) = 0
            status() = 0
            """);
    }

    private static void over(long... xs) {
        for (long x : xs) {
            d = d * 31 + x;
        }
    }

    private static void digestOfNothing() {
        d = 11;
        over(0, 0, 3, 1, 2, 1, 1, 0, 0, 0, 0, 0, 0, 0);
        BoreDesk desk = new BoreDesk();
        desk.end(-1);
        Script.due("digest of a new object", desk.digest(), d);
        Script.due("status", desk.status(), 2);
    }

    private static void digestOfAll() {
        BoreDesk desk = new BoreDesk();
        desk.hole(-7, 9);
        desk.hole(20, -3);
        desk.hole(4, 40);
        desk.layer(0);
        desk.layer(3);
        desk.layer(4);
        desk.layer(2);
        desk.layer(1);
        desk.doubles(0, 0, 4);
        desk.fill(0, 0, 0, 4, 9, -1, 5);
        desk.none(0, 0, 1);
        desk.endless(0, 0, 2, true);
        desk.endless(0, 0, 3, false);
        desk.start(0, 0, 33, 44);
        desk.shorts(0, 3, 1);
        desk.put(0, 3, 0, -6, 0);
        desk.floats(1, 5, 0);
        desk.window(-700, -3, 5, false);
        desk.lay(0, 0, 8);
        desk.lay(2, 1, 50);
        desk.lay(1, 1, 49);
        desk.line(1, 1, -2, 3);
        desk.line(3, -4, 5, -6);
        desk.throwOf(1, 10);
        desk.throwOf(3, -17);
        desk.shift(1);
        desk.costs(10, 20, 30);
        desk.triangle(2, 0, 1);
        desk.splice(0, 0, 2, 1, 1);
        desk.pick(4, 0, 0);
        desk.pick(4, 0, 0);
        desk.pick(3, 0, 3);
        d = 11;
        over(3);
        over(-7, 9, 1, 33, 44, 4, 4, 77, Long.MIN_VALUE, Long.MAX_VALUE, 0, 0, 3, 0, 100, 1, -6, 0, 0);
        over(8, -1, -1, -1, -1);
        over(20, -3, 0, 0, 0, 0, 0, 2, 0, 100, 0);
        over(-1, 49, 60, -1, -1);
        over(4, 40, 0, 1, 33, 44, 4, 4, 77, Long.MIN_VALUE, Long.MAX_VALUE, 0, 0, 0, 0);
        over(-1, -1, -1, -1, -1);
        over(0, 3, 1, -2, 3, 10, 1, 4, 2, -4, 5, -6, -17, 0, 1);
        over(1, 2, 0, 1);
        over(10, 20, 30);
        over(5, 0, -87);
        over(0, 2, 1, 0, 0);
        over(1);
        Script.due("top", desk.top(2, 1), 60);
        Script.due("digest", desk.digest(), d);
        desk.hole(0, 2000);
        Script.due("digest", desk.digest(), d);
        Script.due("status", desk.status(), 6);
    }
}
