import java.util.ArrayList;
import java.util.List;
import java.util.Random;

/** Promises 25 and 40 to 46: COSTS, MATCHES and TREES. */
public final class MatchingTest {
    public static void main(String[] args) {
        costs();
        matches();
        trees();
        for (int seed = 0; seed < 3000; seed++) {
            againstAllMatches(new Random(seed));
        }
        longestLogs();
        widestTree();
        Script.finish();
    }

    private static void costs() {
        Script.run("Promise 25: costs", """
            costs(101, 0, 0) ! 6
            costs(0, 101, 0) ! 6
            costs(0, 0, 101) ! 6
            costs(-1, 0, 0) ! 6
            costs(0, -1, 0) ! 6
            costs(0, 0, -1) ! 6
            costs(0, 0, 0) = 1
            costs(100, 100, 100) = 1
            hole(0, 0) = 0
            feed(0, 0, 0, 0, 0) = 20
            end(3) = 3
            codes(0, 0) = 3
            codes(0, 1) = 0
            match(0, 0, 0, 1) = 300
            costs(1, 10, 100) = 1
            match(0, 0, 0, 1) = 120
            check() = 120
            undo() = 1
            check() = 300
            4 * undo()                 # of codes(), codes(), hole(), costs()
            check() = 0
            undo() = 1
            check() = 4                # as at first: 3, 1, 2
            undo() = 0
            """);
    }

    private static void matches() {
        Script.run("Promises 40 to 43: match, rows, row, check", """
            match(24, 6, 24, 6) ! 2
            match(0, 6, 24, 6) ! 1
            hole(0, 0) = 0
            match(0, 6, 24, 6) ! 2
            match(0, 0, 24, 6) ! 1
            shorts(0, 0, 101) = 101
            match(0, 0, 24, 6) ! 3
            5 * feed(16843009, 16843009, 16843009, 16843009, 16843009)
            codes(0, 1) = 100
            match(0, 1, 24, 6) ! 2
            match(0, 1, 1, 6) ! 1
            match(0, 1, 0, 6) ! 2
            match(0, 1, 0, 5) ! 1
            match(0, 1, 0, 0) ! 3
            6 * feed(16843009, 16843009, 16843009, 16843009, 16843009)
            end(101) = 101
            codes(0, 2) = 101
            match(0, 2, 0, 0) ! 3
            match(0, 2, 0, 1) ! 6
            match(0, 1, 0, 2) ! 6
            check() ! 9
            rows() = 0
            status() = 9
            match(0, 1, 0, 1) = 0
            rows() = 100
            row(0) = 1001
            row(99) = 100100
            row(100) ! 2
            row(-1) ! 2
            rows() = 100
            status() = 2
            match(0, 1, 0, 2) ! 6
            rows() = 100               # they stay
            codes(0, 3) = 0
            match(0, 1, 0, 3) = 101    # 2 for the first, 1 for each other
            rows() = 100
            row(0) = 1000
            row(99) = 100000
            match(0, 3, 0, 1) = 101
            row(0) = 1
            row(99) = 100
            match(0, 3, 0, 3) = 0
            rows() = 0
            row(0) ! 2
            check() = 0                # LOGS without VALUES were matched
            """);
        Script.run("4 MATCHING: of several the one told", """
            hole(0, 0) = 0
            feed(16909060, 0, 0, 0, 0) = 20
            end(2) = 2
            codes(0, 0) = 2            # 1 2
            feed(33620225, 0, 0, 0, 0) = 20
            end(2) = 2
            codes(0, 1) = 2            # 2 1
            match(0, 0, 0, 1) = 4      # 1 out, 2 pair, 1 out; or 2 out, 1 pair, 2 out
            rows() = 3
            row(2) = 2000              # the last ROW: of the first LEFT OUT
            row(1) = 1002
            row(0) = 1
            costs(2, 2, 2) = 1
            match(0, 0, 0, 1) = 4
            rows() = 2                 # a PAIR goes first
            row(0) = 1001
            row(1) = 2002
            costs(0, 0, 0) = 1
            check() = 0
            match(0, 0, 0, 1) = 0
            rows() = 2
            feed(50529027, 0, 0, 0, 0) = 20
            end(1) = 1
            codes(0, 2) = 1            # 3
            costs(100, 1, 1) = 1
            match(0, 2, 0, 0) = 3
            row(0) = 1                 # the first's is the last ROW
            row(1) = 2
            row(2) = 1000
            """);
        Script.run("Promise 43: by the LOGS as they were matched", """
            hole(0, 0) = 0
            feed(16843009, 0, 0, 0, 0) = 20
            end(3) = 3
            codes(0, 0) = 3
            feed(16843009, 0, 0, 0, 0) = 20
            end(1) = 1
            codes(0, 1) = 1
            match(0, 0, 0, 1) = 2
            row(0) = 1001
            row(1) = 2000
            row(2) = 3000
            put(0, 0, 1, 9, 0) = 9
            lack(0, 1) = 1
            check() = 2
            costs(0, 7, 0) = 1
            check() = 14
            feed(1, 2, 3, 4, 5) = 20
            codes(0, 1) = 20
            tree(1) = 1
            hole(5, 5) = 1
            feed(1, 2, 3, 4, 5) = 20
            codes(1, 1) = 20
            tree(1) = 2
            along() = 0
            check() = 14
            rows() = 3
            """);
    }

    private static void trees() {
        Script.run("Promises 44, 45: tree, edge", """
            tree(-1) ! 2
            tree(6) ! 2
            along() ! 9
            tree(0) = 0
            along() = 0
            edge(0) ! 2
            hole(0, 0) = 0
            hole(10, 0) = 1
            hole(0, 10) = 2
            hole(10, 10) = 3
            hole(5, 5) = 4
            hole(1000, 1000) = 5
            hole(-1000, -1000) = 6
            tree(5) = 0
            codes(1, 5) = 0
            tree(5) = 1
            edge(0) ! 2
            codes(2, 5) = 0
            codes(3, 5) = 0
            tree(5) = 3
            edge(0) = 301               # 3 is 10 from 1, and 2 is farther
            edge(1) = 203
            edge(2) ! 2
            edge(-1) ! 2
            codes(0, 5) = 0
            tree(5) = 4
            edge(0) = 100               # 1 and 2 are as near
            edge(1) = 200
            edge(2) = 301               # 1 and 2 are as near to 3
            codes(5, 5) = 0
            codes(6, 5) = 0
            codes(4, 5) = 0
            shorts(0, 5, 3) = 3         # no LOG of codes
            tree(6) ! 2
            edge(2) = 301
            tree(5) = 6
            edge(0) = 401
            edge(1) = 204
            edge(2) = 304
            edge(3) = 503
            edge(4) = 604               # 4 is nearer to -1000, -1000 than 1 or 2
            edge(5) ! 2
            tree(4) = 0
            edge(0) ! 2
            along() = 0
            """);
        Script.run("Promise 46: along", """
            hole(0, 0) = 0
            hole(1, 0) = 1
            hole(3, 0) = 2
            feed(16909060, 0, 0, 0, 0) = 20
            end(4) = 4
            codes(0, 3) = 4
            feed(16909060, 0, 0, 0, 0) = 20
            end(3) = 3
            codes(1, 3) = 3
            feed(16909060, 0, 0, 0, 0) = 20
            end(1) = 1
            codes(2, 3) = 1
            along() ! 9
            tree(3) = 3
            along() = 6                 # 2 and 4
            tree(6) ! 2
            along() = 6
            costs(3, 1, 10) = 1
            along() = 30
            put(1, 3, 2, 9, 0) = 9
            along() = 33                # as they are now
            match(0, 3, 2, 3) = 30
            row(3) = 4000
            along() = 33
            row(3) = 4000               # ROWS are those of match()
            rows() = 4
            lack(1, 3) = 1
            along() ! 1
            undo() = 1
            doubles(0, 3, 0) = 0
            along() ! 3
            shorts(1, 3, 200) = 200     # EDGE 0: 3 of the first, ahead of the other
            lack(0, 3) = 1
            along() ! 3
            undo() = 1
            undo() = 1
            undo() = 1
            6 * feed(0, 0, 0, 0, 0)
            codes(1, 3) = 120
            lack(0, 3) = 1
            along() ! 6                 # of the first, ahead of 1 of the other
            undo() = 1
            undo() = 1
            6 * feed(0, 0, 0, 0, 0)
            end(101) = 101
            codes(0, 3) = 101
            along() ! 6
            lack(2, 3) = 1
            along() ! 6                 # EDGE 0 is ahead of EDGE 1
            undo() = 1
            undo() = 1
            5 * feed(0, 0, 0, 0, 0)
            codes(0, 3) = 100
            lack(2, 3) = 1
            along() ! 1
            """);
        Script.run("Promise 46: a HOLE taken back", """
            hole(0, 0) = 0
            codes(0, 0) = 0
            hole(1, 0) = 1
            codes(1, 0) = 0
            tree(0) = 2
            along() = 0
            undo() = 1
            along() ! 1
            undo() = 1
            along() ! 1
            edge(0) = 100
            hole(7, 7) = 1
            along() ! 1
            feed(0, 0, 0, 0, 0) = 20
            end(2) = 2
            codes(1, 0) = 2
            along() = 3
            """);
    }

    /** Each way to lay both rows of codes out, from the last ROW on: 0 PAIR, 1 first, 2 other. */
    private static void allWays(int i, int j, List<Integer> ways, List<List<Integer>> all) {
        if (i == 0 && j == 0) {
            all.add(new ArrayList<>(ways));
            return;
        }
        for (int way = 0; way < 3; way++) {
            int nextI = way == 2 ? i : i - 1;
            int nextJ = way == 1 ? j : j - 1;
            if (nextI >= 0 && nextJ >= 0) {
                ways.add(way);
                allWays(nextI, nextJ, ways, all);
                ways.remove(ways.size() - 1);
            }
        }
    }

    private static int leftOut(int[] row, int i, int[] costs) {
        return i > 0 && row[i] == row[i - 1] ? costs[1] : costs[2];
    }

    private static int costOf(List<Integer> ways, int[] one, int[] other, int[] costs) {
        int i = one.length;
        int j = other.length;
        int sum = 0;
        for (int way : ways) {
            i -= way == 2 ? 0 : 1;
            j -= way == 1 ? 0 : 1;
            if (way == 0) {
                sum += one[i] == other[j] ? 0 : costs[0];
            } else {
                sum += way == 1 ? leftOut(one, i, costs) : leftOut(other, j, costs);
            }
        }
        return sum;
    }

    private static int[] codes(BoreDesk desk, int s, Random random) {
        int[] row = new int[random.nextInt(6)];
        desk.feed(0, 0, 0, 0, 0);
        desk.end(row.length);
        desk.codes(0, s);
        for (int i = 0; i < row.length; i++) {
            row[i] = random.nextInt(3);
            desk.put(0, s, i, row[i], 0);
        }
        return row;
    }

    /** The ways come in the order of choice, so the first of the least COST is the MATCH. */
    private static void againstAllMatches(Random random) {
        BoreDesk desk = new BoreDesk();
        desk.hole(0, 0);
        int[] one = codes(desk, 0, random);
        int[] other = codes(desk, 1, random);
        int[] costs = {random.nextInt(5), random.nextInt(4), random.nextInt(4)};
        desk.costs(costs[0], costs[1], costs[2]);
        List<List<Integer>> all = new ArrayList<>();
        allWays(one.length, other.length, new ArrayList<>(), all);
        List<Integer> best = null;
        for (List<Integer> ways : all) {
            if (best == null || costOf(ways, one, other, costs) < costOf(best, one, other, costs)) {
                best = ways;
            }
        }
        Script.due("match", desk.match(0, 0, 0, 1), costOf(best, one, other, costs));
        Script.due("check", desk.check(), costOf(best, one, other, costs));
        Script.due("rows", desk.rows(), best.size());
        int i = one.length;
        int j = other.length;
        for (int k = 0; k < best.size(); k++) {
            int way = best.get(k);
            int due = (way == 2 ? 0 : 1000 * i) + (way == 1 ? 0 : j);
            Script.due("row", desk.row(best.size() - 1 - k), due);
            i -= way == 2 ? 0 : 1;
            j -= way == 1 ? 0 : 1;
        }
    }

    private static void widestTree() {
        BoreDesk desk = new BoreDesk();
        for (int h = 0; h < 24; h++) {
            desk.hole(h % 2 == 0 ? h : -h, 0);
            desk.feed(0, 0, 0, 0, h);
            desk.codes(h, 1);
        }
        Script.due("tree", desk.tree(1), 24);
        // 0 at 0, 1 at -1, 2 at 2, 3 at -3: each next one goes on from the one two ahead of it.
        Script.due("edge", desk.edge(0), 100);
        for (int k = 1; k < 23; k++) {
            Script.due("edge", desk.edge(k), 100 * (k + 1) + k - 1);
        }
        Script.due("edge", desk.edge(23), -1);
        Script.due("along", desk.along(), 23 * 3);
    }

    private static void longestLogs() {
        BoreDesk desk = new BoreDesk();
        desk.hole(0, 0);
        for (int s = 0; s < 2; s++) {
            for (int k = 0; k < 5; k++) {
                desk.feed(0, 0, 0, 0, 0);
            }
            desk.codes(0, s);
            desk.fill(0, s, 0, 100, 1000 * s, 0, 1);
        }
        desk.costs(100, 0, 49);
        Script.due("match", desk.match(0, 0, 0, 1), 9800);
        Script.due("rows", desk.rows(), 200);
        Script.due("row", desk.row(0), 1);
        Script.due("row", desk.row(99), 100);
        Script.due("row", desk.row(100), 1000);
        Script.due("row", desk.row(199), 100000);
        Script.due("check", desk.check(), 9800);
    }
}
