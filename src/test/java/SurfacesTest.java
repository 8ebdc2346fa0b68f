import java.math.BigInteger;
import java.util.ArrayList;
import java.util.List;
import java.util.Random;

/** Promises 26 and 47 to 52: TRIANGLES, HEIGHTS, THICKNESS and VOLUMES. */
public final class SurfacesTest {
    public static void main(String[] args) {
        triangles();
        broken();
        heights();
        volumes();
        noRoomForMore();
        for (int seed = 0; seed < 300; seed++) {
            againstClipping(new Random(seed));
            againstCramer(new Random(seed));
        }
        Script.finish();
    }

    private static void triangles() {
        Script.run("Promises 26, 47: triangle, triangles", """
            triangle(24, 24, 24) ! 2
            triangle(0, 24, 24) ! 1
            hole(0, 0) = 0
            triangle(0, 24, 24) ! 2
            triangle(0, 1, 24) ! 1
            hole(10, 0) = 1
            triangle(0, 1, 24) ! 2
            triangle(0, 1, -1) ! 2
            triangle(0, 1, 2) ! 1
            hole(20, 0) = 2
            triangle(0, 1, 2) ! 6         # on one line
            triangle(0, 0, 0) ! 6
            triangle(0, 1, 0) ! 6
            hole(0, 10) = 3
            hole(0, -10) = 4
            hole(10, 10) = 5
            hole(1, 1) = 6
            hole(2, 1) = 7
            hole(1, 2) = 8
            triangles() = 0
            status() = 0
            triangle(0, 1, 3) = 0
            triangles() = 1
            triangle(0, 1, 3) ! 6         # the same one
            triangle(3, 1, 0) ! 6
            triangle(1, 3, 0) ! 6
            triangle(6, 7, 8) ! 6         # within it
            triangle(0, 2, 3) ! 6         # about it
            triangle(0, 2, 5) ! 6         # across it
            status() = 6
            triangles() = 1
            status() = 6
            triangle(4, 1, 0) = 1         # another one across the edge
            triangle(1, 2, 5) = 2         # touches at a corner
            triangle(3, 5, 1) = 3
            undo() = 1
            triangles() = 3
            triangle(5, 3, 1) = 3
            """);
    }

    private static void broken() {
        Script.run("Promise 48: isBroken", """
            isBroken(40) ! 2
            isBroken(-1) ! 2
            isBroken(39) ! 1
            isBroken(0) ! 1
            hole(0, 0) = 0
            hole(10, 0) = 1
            hole(0, 10) = 2
            triangle(0, 1, 2) = 0
            isBroken(0) = 0
            isBroken(1) ! 1
            layer(2) = 0
            layer(3) = 1
            isBroken(0) = 0
            line(0, 1, 0, 10) = 1
            isBroken(0) = 0               # SIDES -1, 0, -1
            line(0, 1, 0, 0) = 1
            isBroken(0) = 0               # 0, 1, 0
            line(0, 1, 1, 10) = 1
            isBroken(0) = 0               # -1, 0, 0
            line(0, 1, -1, 0) = 1
            isBroken(0) = 1               # 0, 1, -1
            line(0, 1, 1, 5) = 1
            isBroken(0) = 1               # -1, 1, 1
            line(0, -1, 0, -9) = 1
            isBroken(0) = 1               # 1, -1, 1
            line(0, 1, 0, 11) = 1
            isBroken(0) = 0
            line(1, 1, 0, -1) = 1
            isBroken(0) = 0               # all on one SIDE of each
            line(1, 0, 1, 9) = 1
            isBroken(0) = 1
            undo() = 1
            isBroken(0) = 0
            """);
    }

    private static void heights() {
        Script.run("Promises 49, 50: height, thickness", """
            height(16, 1001, 0, 0) ! 6
            height(16, 0, -1001, 0) ! 6
            height(16, 0, 0, 2) ! 6
            height(16, 0, 0, -1) ! 6
            height(16, 0, 0, 0) ! 2
            height(0, 0, 0, 0) ! 1
            thickness(16, 16, 1001, 0, 0) ! 6
            thickness(16, 16, 0, 1001, 0) ! 6
            thickness(16, 16, 0, 0, 2) ! 6
            thickness(16, 16, 0, 0, 0) ! 2
            thickness(0, 16, 0, 0, 0) ! 1
            layer(0) = 0
            thickness(0, 16, 0, 0, 0) ! 2
            thickness(0, 1, 0, 0, 0) ! 1
            layer(4) = 1
            layer(2) = 2
            height(0, 0, 0, 0) ! 9
            thickness(0, 1, 0, 0, 0) ! 9
            hole(0, 0) = 0
            hole(3, 0) = 1
            hole(0, 3) = 2
            hole(3, 3) = 3
            triangle(0, 1, 2) = 0
            triangle(1, 2, 3) = 1
            line(2, 1, 0, 1) = 1
            height(0, 1, 1, 0) ! 10       # ahead of the lack of TOPS
            height(0, 3, 3, 0) ! 10
            height(0, 4, 4, 0) ! 9
            thickness(0, 1, 1, 1, 0) ! 10
            line(2, 0, 0, 0) = 1
            height(0, 1, 1, 0) ! 9
            lay(0, 0, 10) = 10
            lay(0, 1, 11) = 11
            height(0, 1, 1, 1) ! 9
            lay(0, 2, 15) = 15
            height(0, 1, 1, 0) = 12
            height(0, 1, 1, 1) = 1
            height(0, 1, 0, 0) = 31
            height(0, 1, 0, 1) = 3
            height(0, 0, 0, 0) = 10
            height(0, 2, 1, 0) = 37       # on the edge: of the first TRIANGLE
            height(0, 2, 1, 1) = 3
            height(0, 3, 0, 0) = 11
            height(0, 2, 2, 0) ! 9        # 3 has no TOP
            lay(0, 3, 0) = 0
            height(0, 3, 3, 0) = 0
            height(0, 3, 3, 1) = 1
            height(0, 2, 2, 0) = 26
            height(0, 2, 2, 1) = 3
            thickness(0, 1, 1, 1, 0) ! 9
            lay(1, 0, 10) = 10
            lay(1, 1, 100) = 100
            lay(1, 2, 15) = 15
            thickness(0, 1, 1, 1, 0) = 89
            thickness(0, 1, 1, 1, 1) = 3
            thickness(1, 0, 1, 1, 0) = -89
            thickness(1, 0, 1, 1, 1) = 3
            thickness(0, 0, 1, 1, 0) = 0
            thickness(0, 0, 1, 1, 1) = 1
            thickness(0, 1, 2, 2, 0) ! 9  # the second lacks
            thickness(1, 0, 2, 2, 0) ! 9
            lay(2, 0, 9) = 9
            lay(2, 1, 10) = 10
            lay(2, 2, 14) = 14
            thickness(0, 2, 1, 0, 0) = -1 # no refusal
            status() = 0
            height(2, 1, 0, 0) = 28
            """);
        Script.run("Promise 49: the greatest numbers", """
            hole(-1000, -1000) = 0
            hole(1000, -999) = 1
            hole(-999, 1000) = 2
            triangle(2, 1, 0) = 0
            layer(0) = 0
            lay(0, 0, 9999999) = 9999999
            lay(0, 1, 10000000) = 10000000
            lay(0, 2, 1) = 1
            height(0, -999, -999, 0) = 19999998002   # 39979996005998 / 3999999, both by 1999
            height(0, -999, -999, 1) = 2001
            volumeOf(0, 0, 0) = 0
            """);
    }

    private static void volumes() {
        Script.run("Promises 51, 52: volumeOf, volume", """
            volumeOf(40, 16, 16) ! 2
            volumeOf(40, 0, 16) ! 1
            volume(16, 16) ! 2
            volume(0, 16) ! 1
            layer(0) = 0
            volumeOf(40, 0, 16) ! 2
            volumeOf(40, 0, 1) ! 1
            volume(0, 16) ! 2
            volume(0, 1) ! 1
            layer(4) = 1
            layer(3) = 2
            volumeOf(40, 0, 1) ! 2
            volumeOf(-1, 0, 1) ! 2
            volumeOf(0, 0, 1) ! 1
            volume(0, 1) = 0
            hole(0, 0) = 0
            hole(4, 0) = 1
            hole(0, 3) = 2
            hole(4, 3) = 3
            triangle(0, 1, 2) = 0
            triangle(1, 2, 3) = 1
            volumeOf(0, 0, 1) ! 9
            volume(0, 1) = 0
            lay(0, 0, 10) = 10
            lay(0, 1, 20) = 20
            lay(0, 2, 30) = 30
            lay(0, 3, 40) = 40
            lay(1, 0, 11) = 11
            lay(1, 1, 22) = 22
            volumeOf(0, 0, 1) ! 9
            lay(1, 2, 34) = 34
            volumeOf(0, 0, 1) = 84        # 12 * (1 + 2 + 4)
            volumeOf(0, 1, 0) = -84
            volumeOf(1, 0, 1) ! 9
            volume(0, 1) = 84
            lay(1, 3, 48) = 48
            volumeOf(1, 0, 1) = 168       # 12 * (2 + 4 + 8)
            volume(0, 1) = 252
            volume(1, 0) = -252
            volume(1, 1) = 0
            line(2, 1, 1, 4) = 1          # SIDES -1, 0, -1 and 0, -1, 1
            volumeOf(0, 0, 1) = 84
            volumeOf(1, 0, 1) ! 10
            volume(0, 1) = 84
            lay(1, 3, -1) = -1
            volumeOf(1, 0, 1) ! 10        # ahead of the lack of TOPS
            lay(1, 0, -1) = -1
            volumeOf(0, 0, 1) ! 9
            volumeOf(0, 1, 0) ! 9
            volume(0, 1) = 0
            height(1, 1, 1, 0) ! 9
            height(0, 0, 0, 0) = 10
            """);
    }

    /** 24 HOLES can hold 43 TRIANGLES. */
    private static void noRoomForMore() {
        BoreDesk desk = new BoreDesk();
        desk.hole(-1000, -1000);
        desk.hole(1000, -1000);
        desk.hole(0, 1000);
        // Each further HOLE lies in the triangle of the last one and the two at the foot.
        for (int k = 3; k < 24; k++) {
            desk.hole(0, 900 - 80 * (k - 3));
        }
        int made = 0;
        int last = 2;
        for (int k = 3; k < 24; k++) {
            Script.due("triangle", desk.triangle(0, last, k), made < 40 ? made++ : -1);
            Script.due("triangle", desk.triangle(last, 1, k), made < 40 ? made++ : -1);
            last = k;
        }
        Script.due("triangles", desk.triangles(), 40);
        Script.due("triangle", desk.triangle(0, 1, last), -1);
        Script.due("status", desk.status(), 6);
        Script.due("isBroken", desk.isBroken(39), 0);
        Script.due("isBroken", desk.isBroken(40), -1);
        Script.due("status", desk.status(), 2);
    }

    private static double cross(double[] a, double[] b, double[] p) {
        return (b[0] - a[0]) * (p[1] - a[1]) - (b[1] - a[1]) * (p[0] - a[0]);
    }

    private static List<double[]> leftOf(List<double[]> polygon, double[] a, double[] b) {
        List<double[]> kept = new ArrayList<>();
        for (int k = 0; k < polygon.size(); k++) {
            double[] p = polygon.get(k);
            double[] q = polygon.get((k + 1) % polygon.size());
            double atP = cross(a, b, p);
            double atQ = cross(a, b, q);
            if (atP >= 0) {
                kept.add(p);
            }
            if (atP * atQ < 0) {
                double t = atP / (atP - atQ);
                kept.add(new double[] {p[0] + t * (q[0] - p[0]), p[1] + t * (q[1] - p[1])});
            }
        }
        return kept;
    }

    private static double area(List<double[]> polygon) {
        double sum = 0;
        for (int k = 1; k + 1 < polygon.size(); k++) {
            sum += cross(polygon.get(0), polygon.get(k), polygon.get(k + 1));
        }
        return Math.abs(sum);
    }

    private static double sharedArea(double[][] one, double[][] other) {
        List<double[]> left = List.of(one);
        boolean leftTurn = cross(other[0], other[1], other[2]) > 0;
        for (int k = 0; k < 3 && !left.isEmpty(); k++) {
            double[] a = other[k];
            double[] b = other[(k + 1) % 3];
            left = leftTurn ? leftOf(left, a, b) : leftOf(left, b, a);
        }
        return area(left);
    }

    private static void againstClipping(Random random) {
        BoreDesk desk = new BoreDesk();
        List<double[]> holes = new ArrayList<>();
        while (holes.size() < 12) {
            int x = random.nextInt(7);
            int y = random.nextInt(7);
            if (desk.hole(x, y) >= 0) {
                holes.add(new double[] {x, y});
            }
        }
        List<double[][]> made = new ArrayList<>();
        for (int k = 0; k < 300; k++) {
            int[] h = {random.nextInt(12), random.nextInt(12), random.nextInt(12)};
            double[][] corners = {holes.get(h[0]), holes.get(h[1]), holes.get(h[2])};
            boolean fits = cross(corners[0], corners[1], corners[2]) != 0;
            for (double[][] other : made) {
                fits = fits && sharedArea(corners, other) < 1e-9;
            }
            Script.due("triangle of seed", desk.triangle(h[0], h[1], h[2]), fits ? made.size() : -1);
            if (fits) {
                made.add(corners);
            }
        }
    }

    /** The plane z = p x + q y + r by Cramer's rule. */
    private static void againstCramer(Random random) {
        BoreDesk desk = new BoreDesk();
        long[][] at = new long[3][];
        for (int k = 0; k < 3; k++) {
            at[k] = new long[] {random.nextInt(2001) - 1000, random.nextInt(2001) - 1000, random.nextInt(10000001)};
            desk.hole((int) at[k][0], (int) at[k][1]);
        }
        desk.layer(0);
        for (int k = 0; k < 3; k++) {
            desk.lay(0, k, (int) at[k][2]);
        }
        if (desk.triangle(0, 1, 2) < 0) {
            return;
        }
        for (int k = 0; k < 50; k++) {
            int x = random.nextInt(2001) - 1000;
            int y = random.nextInt(2001) - 1000;
            double[][] corners = {{at[0][0], at[0][1]}, {at[1][0], at[1][1]}, {at[2][0], at[2][1]}};
            double[] p = {x, y};
            double turn = Math.signum(cross(corners[0], corners[1], corners[2]));
            boolean inside = turn * cross(corners[0], corners[1], p) >= 0
                    && turn * cross(corners[1], corners[2], p) >= 0 && turn * cross(corners[2], corners[0], p) >= 0;
            long ux = at[1][0] - at[0][0];
            long uy = at[1][1] - at[0][1];
            long uz = at[1][2] - at[0][2];
            long vx = at[2][0] - at[0][0];
            long vy = at[2][1] - at[0][1];
            long vz = at[2][2] - at[0][2];
            long det = ux * vy - uy * vx;
            long slopeX = uz * vy - uy * vz;
            long slopeY = ux * vz - uz * vx;
            BigInteger upper = BigInteger.valueOf(at[0][2] * det + slopeX * (x - at[0][0]) + slopeY * (y - at[0][1]));
            BigInteger lower = BigInteger.valueOf(det);
            BigInteger common = upper.gcd(lower).multiply(BigInteger.valueOf(lower.signum()));
            Script.due("height's upper part", desk.height(0, x, y, 0), inside ? upper.divide(common).longValue() : -1);
            Script.due("height's lower part", desk.height(0, x, y, 1), inside ? lower.divide(common).longValue() : -1);
            Script.due("height's status", desk.status(), inside ? 0 : 9);
        }
    }
}
