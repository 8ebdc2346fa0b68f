/** Sentences of 6 STATUS: why a call is refused, what that leaves as it was, and what undo() takes back. */
public final class StatusSentencesTest {
    /** Each call that names a LOG (or a SLOT alone) by h, s; 'of other' are those that name two. */
    private static final String[] BY_SLOT = {"doubles(H, S, 1)", "floats(H, S, 1)", "shorts(H, S, 1)", "codes(H, S)",
            "lack(H, S)", "kind(H, S)"};
    private static final String[] BY_LOG = {"start(H, S, 0, 1)", "put(H, S, 0, 1, 0)", "fill(H, S, 0, 1, 1, 0, 1)",
            "none(H, S, 0)", "endless(H, S, 0, true)", "copy(H, S, 0, 0, 1, 0, 1)", "copy(0, 1, 0, H, S, 0, 1)",
            "pick(0, H, S)", "length(H, S)", "value(H, S, 0)", "part(H, S, 0, 1, 0, 0)", "mean(H, S)",
            "match(H, S, 0, 2)", "match(0, 2, H, S)"};
    private static final String[] BY_HOLE = {"splice(H, 0, 0, 0, 1)", "splice(0, 1, H, 0, 1)", "splice(H, 9, 0, 9, 0)",
            "lay(0, H, 5)", "triangle(H, 0, 0)", "triangle(0, H, 0)", "triangle(0, 0, H)", "top(0, H)", "side(1, H)",
            "drift(H, 0)", "drift(0, H)"};
    private static final String[] BY_LAYER = {"lay(L, 0, 5)", "pick(L, 0, 1)", "line(L, 0, 0, 0)", "throwOf(L, 0)",
            "shift(L)", "back(L)", "top(L, 0)", "find(L)", "side(L, 0)", "isShifted(L)", "tell(L)", "height(L, 0, 0, 0)",
            "thickness(L, 0, 0, 0, 0)", "thickness(0, L, 0, 0, 0)", "volumeOf(0, L, 0)", "volumeOf(0, 0, L)",
            "volume(L, 0)", "volume(0, L)"};

    /** A desk with something of everything. */
    private static final String DESK = """
            hole(0, 0) = 0
            hole(10, 0) = 1
            hole(0, 10) = 2
            feed(16909060, 0, 0, 0, 0) = 20
            end(4) = 4
            codes(0, 0) = 4
            feed(16909060, 0, 0, 0, 0) = 20
            end(2) = 2
            codes(1, 0) = 2
            doubles(0, 1, 3) = 3
            shorts(0, 2, 3) = 3
            floats(2, 3, 2) = 2
            none(2, 3, 0) = 1
            endless(2, 3, 1, true) = 1
            codes(2, 4) = 0
            match(0, 0, 1, 0) = 4
            tree(0) = 2
            layer(0) = 0
            layer(2) = 1
            layer(3) = 2
            layer(4) = 3
            lay(0, 0, 50) = 50
            lay(3, 0, 90) = 90
            lay(1, 0, 60) = 60
            shift(2) = 0
            triangle(0, 1, 2) = 0
            splice(0, 1, 2, 1, 2) = 2
            pick(1, 0, 2) = 100
            feed(1, 2, 3, 4, 5) = 20
            end(7) = 7
            """;
    private static final String AS_IT_WAS = """
            copied() = 2
            ran(2) = 1
            rows() = 4
            triangles() = 1
            row(0) = 1001
            row(3) = 4000
            check() = 4
            edge(0) = 100
            edge(1) ! 2
            along() = 4
            end(8) ! 2
            end(7) = 7
            codes(2, 5) = 7
            value(2, 5, 3) = 1
            undo() = 1
            undo() = 1
            top(1, 0) = 60
            undo() = 1
            kind(2, 1) = 0
            """;
    private static final String[] REFUSED = {"end(8) ! 2", "end(-1) ! 2", "hole(0, 0) ! 6", "hole(1001, 0) ! 6",
            "doubles(0, 0, 301) ! 6", "doubles(0, 0, -1) ! 4", "floats(0, 0, 301) ! 6", "floats(0, 0, -1) ! 4",
            "shorts(0, 6, 1) ! 2", "shorts(0, 0, -1) ! 4", "codes(0, 6) ! 2", "codes(3, 0) ! 1", "lack(0, 6) ! 2",
            "start(0, 0, -1, 1) ! 6", "start(2, 0, 0, 1) ! 1", "put(0, 0, 4, 1, 0) ! 2", "put(0, 0, 0, 1, 201) ! 6",
            "fill(0, 0, 3, 2, 1, 0, 1) ! 2", "fill(0, 0, 0, -1, 1, 0, 1) ! 4", "none(0, 0, 0) ! 3", "none(0, 1, 3) ! 2",
            "endless(0, 2, 0, true) ! 3", "endless(0, 1, -1, true) ! 2", "copy(0, 0, 0, 0, 1, 0, 1) ! 3",
            "copy(0, 0, 3, 1, 0, 0, 2) ! 2", "copy(0, 0, 0, 1, 0, 0, -1) ! 2", "splice(0, 0, 1, 0, 7) ! 6",
            "splice(0, 0, 3, 0, 1) ! 1", "splice(3, 0, 0, 0, 1) ! 1", "splice(24, 0, 0, 0, 1) ! 2",
            "window(0, 0, 0, false) ! 6", "window(0, 201, 1, false) ! 6", "layer(5) ! 6", "lay(0, 0, 91) ! 7",
            "lay(3, 0, 49) ! 7", "lay(2, 0, 5) ! 10", "lay(0, 0, -2) ! 6", "pick(2, 0, 1) ! 10", "pick(0, 0, 3) ! 1",
            "line(0, 1, 1, 1) ! 3", "line(2, 1, 1, 1) ! 10", "throwOf(0, 1) ! 3", "throwOf(2, 1) ! 10", "shift(2) ! 10",
            "shift(0) ! 3", "back(1) ! 10", "back(3) ! 3", "costs(0, 0, 101) ! 6", "triangle(0, 1, 2) ! 6",
            "triangle(0, 0, 1) ! 6", "triangle(0, 1, 3) ! 1", "kind(0, 6) ! 2", "length(2, 0) ! 1", "value(0, 1, 3) ! 2",
            "part(0, 1, 0, 0, 0, 0) ! 5", "mean(2, 0) ! 1", "top(0, 1) ! 9", "find(2) ! 9", "side(0, 0) ! 3",
            "isShifted(0) ! 3", "tell(4) ! 1", "drift(0, 3) ! 1", "match(0, 0, 0, 1) ! 3", "match(0, 0, 2, 5) ! 1",
            "row(-1) ! 2", "row(4) ! 2", "tree(6) ! 2", "tree(-1) ! 2", "edge(1) ! 2", "isBroken(1) ! 1",
            "height(0, 1, 1, 0) ! 9", "thickness(0, 3, 1, 1, 0) ! 9", "volumeOf(0, 0, 3) ! 9", "volume(0, 4) ! 1"};

    /** Calls that are done on the desk above, each with another state behind it. */
    private static final String[] CHANGES = {"hole(5, 5) = 4", "doubles(0, 2, 3) = 3", "floats(0, 2, 3) = 3",
            "shorts(0, 2, 300) = 300", "codes(0, 1) = 7", "lack(0, 0) = 1", "start(0, 0, 0, 99) = 1",
            "put(0, 1, 2, 1, 0) = 1", "fill(0, 2, 0, 3, 1, 0, 0) = 3", "none(0, 1, 0) = 1", "endless(0, 1, 0, false) = 1",
            "copy(0, 0, 2, 1, 0, 1, 1) = 1", "splice(0, 0, 2, 0, 1) = 1", "splice(0, 1, 1, 1, 3) ! 1",
            "splice(0, 0, 1, 5, 2) ! 2", "window(1, 0, 1, true) = 1", "window(0, 0, 1, false) = 1", "layer(0) = 4",
            "lay(0, 0, 49) = 49", "lay(3, 0, -1) = -1", "pick(1, 1, 0) = 100", "line(1, 0, 0, 1) = 1",
            "throwOf(1, -1) = -1", "shift(1) = 0", "back(2) = 0", "costs(3, 1, 1) = 1", "triangle(1, 2, 3) = 1"};
    /** Calls that are done on it and change nothing. */
    private static final String[] NO_CHANGES = {"shorts(0, 2, 3) = 3", "doubles(0, 1, 3) = 3", "lack(2, 5) = 0",
            "start(0, 0, 0, 100) = 1", "put(0, 1, 2, 0, 0) = 0", "fill(0, 2, 0, 3, 0, 0, 0) = 3",
            "fill(0, 2, 0, 0, 1, 0, 0) = 0", "none(2, 3, 0) = 1", "endless(2, 3, 1, true) = 1", "end(0) = 0\ncodes(2, 4) = 0",
            "copy(0, 0, 1, 0, 0, 1, 3) = 3", "copy(0, 0, 0, 1, 0, 0, 0) = 0",
            "splice(0, 1, 2, 1, 2) = 2", "window(0, 0, 1, true) = 1", "lay(0, 0, 50) = 50", "lay(0, 1, -1) = -1",
            "pick(1, 0, 2) = 100", "line(1, 0, 0, 0) = 1", "throwOf(1, 0) = 0", "costs(3, 1, 2) = 1"};

    private static final String TWO_CALLS_OF_COSTS = """
            check() = 4
            undo() = 1
            check() = 14
            undo() = 1
            check() = 4
            """;
    private static final String LATEST = "undo() takes back the latest call that was done and is not taken back yet, of those from"
            + " hole() to triangle() in the order below";

    public static void main(String[] args) {
        statuses();
        refusals();
        order();
        undoOfEachCall();
        undoOfTheLatest();
        undoOfSplice();
        leftByUndo();
        Sentence.finishParts("6 STATUS");
    }

    private static void statuses() {
        Sentence.test("6 STATUS", "STATUS of the latest call: 0", """
            status() = 0
            end(1) ! 2
            status() = 2
            hole(9999, 0) ! 6
            status() = 6
            status() = 6
            end(0) = 0
            status() = 0
            end(1) ! 2
            undo() = 0
            status() = 0
            end(1) ! 2
            layer(2) = 0
            hole(0, 0) = 0
            lay(0, 0, -1) = -1                     # -1 is an answer, too
            status() = 0
            throwOf(0, -1) = -1
            status() = 0
            line(0, 0, 0, 1) = 1
            side(0, 0) = -1
            status() = 0
            """);
        Sentence.test("6 STATUS", "1 nothing is there (no HOLE, LOG, LAYER, TRIANGLE of that number was made; the SLOT lacks)", """
            kind(0, 0) ! 1
            kind(23, 0) ! 1
            hole(0, 0) = 0
            kind(1, 0) ! 1
            k from 0 to 5: length(0, k) ! 1
            tell(0) ! 1
            tell(15) ! 1
            layer(0) = 0
            tell(1) ! 1
            isBroken(0) ! 1
            isBroken(39) ! 1
            """);
        Sentence.test("6 STATUS", "2 beyond what there can be (HOLE, SLOT, VALUE, LAYER, TRIANGLE, ROW, EDGE)", """
            kind(-1, 0) ! 2
            kind(24, 0) ! 2
            hole(0, 0) = 0
            kind(0, -1) ! 2
            kind(0, 6) ! 2
            tree(-1) ! 2
            tree(6) ! 2
            doubles(0, 0, 3) = 3
            value(0, 0, -1) ! 2
            value(0, 0, 3) ! 2
            value(0, 0, 2147483647) ! 2
            value(0, 0, -2147483648) ! 2
            tell(-1) ! 2
            tell(16) ! 2
            isBroken(-1) ! 2
            isBroken(40) ! 2
            isBroken(2147483647) ! 2
            isBroken(-2147483648) ! 2
            row(-1) ! 2
            row(0) ! 2
            row(2147483647) ! 2
            row(-2147483648) ! 2
            edge(-1) ! 2
            edge(0) ! 2
            edge(2147483647) ! 2
            edge(-2147483648) ! 2
            """);
        Sentence.test("6 STATUS", "3 not that KIND; 4 a size below 0; 5 nought to share by", DESK + """
            none(0, 0, 0) ! 3
            match(0, 1, 0, 0) ! 3
            line(3, 0, 0, 0) ! 3
            doubles(0, 0, -1) ! 4
            fill(0, 0, 0, -1, 0, 0, 0) ! 4
            part(0, 1, 0, 0, 0, 0) ! 5
            shorts(0, 2, 0) = 0
            mean(0, 2) ! 5
            """);
        Sentence.test("6 STATUS", "6 a number not as told, or no room; 7; 9 NONE, ENDLESS, lacking; 10 SHIFTED, BROKEN.", DESK + """
            hole(0, 1001) ! 6
            13 * feed(0, 0, 0, 0, 0)
            feed(0, 0, 0, 0, 0) = 287
            feed(0, 0, 0, 0, 0) ! 6                # no room
            lay(0, 0, 91) ! 7
            none(0, 1, 0) = 1
            value(0, 1, 0) ! 9
            endless(0, 1, 0, true) = 1
            part(0, 1, 0, 1, 0, 0) ! 9
            top(0, 1) ! 9
            shift(2) ! 10
            line(1, 1, -1, 0) = 1
            height(0, 1, 1, 0) ! 10
            """);
    }

    private static void refusals() {
        String nothing = "A call with another STATUS than 0 answers -1, and changes nothing but this";
        for (String row : REFUSED) {
            Sentence.test("6 STATUS", nothing, DESK + "same all\n" + row + "\nsame all\n" + AS_IT_WAS);
        }
        Sentence.test("6 STATUS", nothing, DESK + """
            10 * feed(1, 2, 3, 4, 5)
            4 * feed(6, 7, 8, 9, 10)
            feed(11, 12, 13, 14, 15) ! 6
            end(288) ! 2
            codes(2, 0) = 287                      # the TAPE is as it was
            value(2, 0, 286) = 10
            """);
        Sentence.test("6 STATUS", "(and ran())", DESK + """
            pick(0, 0, 2) ! 9
            ran(0) = 1
            start(0, 0, 10000000, 1) = 1
            pick(3, 0, 0) ! 6                      # 4 is the greatest, at 10000003
            ran(4) = 1
            pick(3, 0, 2) ! 7                      # 0 is out of ORDER
            ran(4) = 2
            pick(2, 0, 2) ! 10
            ran(3) = 0
            pick(0, 0, 5) ! 1
            ran(0) = 1
            top(0, 0) = 50
            top(3, 0) = 90
            """);
        Sentence.test("6 STATUS", ", unless it is said.", DESK + """
            splice(0, 1, 1, 1, 3) ! 1              # SLOT 3 lacks, two have come
            copied() = 2
            kind(1, 1) = 1
            kind(1, 2) = 3
            kind(1, 3) = 0
            splice(0, 3, 1, 1, 3) ! 1
            copied() = 0
            kind(1, 1) = 1
            """);
    }

    private static void order() {
        Sentence.test("6 STATUS", "Of several the one that is told first", """
            start(24, 6, -1, 0) ! 6                # 6; 2, 1, 2, 1
            start(24, 6, 0, 1) ! 2
            doubles(24, 6, 301) ! 2                # 2, 1, 2; 6; 4
            doubles(0, 6, 301) ! 1
            hole(0, 0) = 0
            doubles(0, 6, 301) ! 2
            doubles(0, 0, 301) ! 6
            copy(0, 0, 9, 24, 0, 9, -1) ! 1        # of the first, then of the other; 3; 2
            doubles(0, 0, 1) = 1
            copy(0, 0, 9, 24, 0, 9, -1) ! 2
            floats(0, 1, 1) = 1
            copy(0, 0, 9, 0, 1, 9, -1) ! 3
            copy(0, 0, 9, 0, 0, 9, -1) ! 2
            """);
        String bySlot = "of a HOLE, SLOT and LOG by h, s: 2, 1 of the HOLE, 2, 1 of the SLOT";
        String ready = """
            hole(0, 0) = 0
            doubles(0, 1, 1) = 1
            codes(0, 2) = 0
            layer(0) = 0
            layer(2) = 1
            """;
        for (String call : BY_SLOT) {
            Sentence.test("6 STATUS", bySlot, ready + holesOf(call) + slotsOf(call));
        }
        for (String call : BY_LOG) {
            String lacking = "k from 3 to 5: " + call.replace("H", "0").replace("S", "k") + " ! 1\n";
            Sentence.test("6 STATUS", bySlot, ready + holesOf(call) + slotsOf(call) + lacking);
        }
        for (String call : BY_HOLE) {
            Sentence.test("6 STATUS", bySlot, ready + holesOf(call));
        }
        for (String call : BY_LAYER) {
            Sentence.test("6 STATUS", "; of a LAYER 2, 1.", ready + beyond(call, "L", -1, 16)
                    + "k from 2 to 15: " + call.replace("L", "k") + " ! 1\n");
        }
    }

    private static String beyond(String call, String letter, int below, int above) {
        StringBuilder rows = new StringBuilder();
        for (int number : new int[] {below, above, Integer.MIN_VALUE, Integer.MAX_VALUE}) {
            rows.append(call.replace(letter, String.valueOf(number)) + " ! 2\n");
        }
        return rows.toString();
    }

    /** The HOLE is read ahead of the SLOT: one that is beyond, too, changes nothing. */
    private static String holesOf(String call) {
        StringBuilder rows = new StringBuilder();
        for (String slot : new String[] {"0", "6", "-1"}) {
            String one = call.replace("S", slot);
            rows.append(beyond(one, "H", -1, 24));
            rows.append("k from 1 to 23: " + one.replace("H", "k") + " ! 1\n");
        }
        return rows.toString();
    }

    private static String slotsOf(String call) {
        return beyond(call.replace("H", "0"), "S", -1, 6);
    }

    private static void undoOfEachCall() {
        // Ahead of it two calls stand that end as they began: what is taken back is told by the next two undo().
        String ahead = "hole(9, 9) = 3\ncosts(9, 8, 7) = 1\ncosts(3, 1, 2) = 1\nsame state before\n";
        String behind = "undo() = 1\nsame state before\n" + TWO_CALLS_OF_COSTS;
        for (String row : CHANGES) {
            Sentence.test("6 STATUS", LATEST, DESK + ahead + row + "\nnot state before\n" + behind);
        }
        for (String row : NO_CHANGES) {
            Sentence.test("6 STATUS", ", even if it changed nothing", DESK + ahead + row + "\nsame state before\n" + behind);
        }
    }

    private static void undoOfTheLatest() {
        Sentence.test("6 STATUS", LATEST, """
            hole(0, 0) = 0
            hole(1, 0) = 1
            shorts(0, 0, 2) = 2
            undo() = 1                             # of shorts()
            undo() = 1                             # of the second hole()
            hole(2, 0) = 1
            lack(1, 0) = 0
            undo() = 1
            undo() = 1                             # of the one behind what is taken back already
            kind(1, 0) ! 1
            kind(0, 0) = 0
            undo() = 1
            kind(0, 0) ! 1
            undo() = 0
            """);
        Sentence.test("6 STATUS", LATEST, DESK + """
            feed(1, 2, 3, 4, 5) = 27               # none of these counts
            end(7) = 7
            kind(0, 0) = 4
            length(0, 0) = 4
            value(0, 0, 0) = 1
            part(0, 1, 0, 1, 0, 0) = 0
            mean(0, 0) = 2
            copied() = 2
            top(0, 0) = 50
            find(0) = 0
            side(1, 0) = 0
            isShifted(1) = 0
            tell(0) = 1
            drift(0, 0) = 0
            match(0, 0, 1, 0) = 4
            row(0) = 1001
            check() = 4
            tree(0) = 2
            edge(0) = 100
            along() = 4
            isBroken(0) = 0
            volume(0, 0) = 0
            top(1, 0) = 100
            undo() = 1                             # of pick()
            top(1, 0) = 60
            """);
    }

    private static void undoOfSplice() {
        Sentence.test("6 STATUS", "(a splice() that stopped counts, if some have come)", DESK + """
            same before
            splice(0, 1, 1, 1, 3) ! 1
            not before
            undo() = 1
            same before                            # copied() is 2 as it was
            splice(0, 0, 1, 5, 2) ! 2
            undo() = 1
            kind(1, 5) = 0
            splice(0, 3, 1, 1, 2) ! 1              # none have come: it does not count
            splice(0, 6, 1, 1, 2) ! 2
            splice(0, 0, 1, 6, 2) ! 2
            undo() = 1                             # of pick()
            top(1, 0) = 60
            """);
    }

    private static void leftByUndo() {
        Sentence.test("6 STATUS", "TAPE, ROWS, EDGES, copied(), ran() stay as they are.", DESK + """
            22 * undo()
            kind(0, 0) ! 1                         # all is taken back
            tell(0) ! 1
            triangles() = 0
            undo() = 0
            end(8) ! 2
            end(7) = 7
            copied() = 2
            ran(2) = 1
            rows() = 4
            row(0) = 1001
            row(3) = 4000
            check() = 4
            edge(0) = 100
            along() ! 1
            hole(0, 0) = 0
            codes(0, 0) = 7
            value(0, 0, 3) = 1
            """);
    }
}
