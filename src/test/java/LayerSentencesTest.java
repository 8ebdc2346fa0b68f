/** Sentences of promises 17 to 27: the WINDOW, LAYERS, FAULTS, COSTS, TRIANGLES and undo(). */
public final class LayerSentencesTest {
    public static void main(String[] args) {
        window();
        layer();
        lay();
        pick();
        line();
        throwOf();
        shift();
        back();
        costs();
        triangle();
        undo();
        Sentence.finishPromises(17, 27);
    }

    private static void window() {
        Sentence.test("Promise 17", "The WINDOW: 1.", """
            digest of 0 | 0 | 3 1 2 | 1 1 0 | 0 0 0 0 0 | 0
            window(-7, -1, 20, false) = 1
            digest of 0 | 0 | 3 1 2 | 20 0 -3 | 0 0 0 0 0 | 0
            window(2147483647, 200, 1, true) = 1
            digest of 0 | 0 | 3 1 2 | 1 1 9223372036854775807 | 0 0 0 0 0 | 0
            window(-2147483648, 200, 2, true) = 1
            digest of 0 | 0 | 3 1 2 | 2 1 -9223372036854775808 | 0 0 0 0 0 | 0
            window(-2147483648, -200, 3, false) = 1
            digest of 0 | 0 | 3 1 2 | 3 0 0 | 0 0 0 0 0 | 0
            """);
        Sentence.test("Promise 17", "6: e, LENGTH.", """
            window(5, 0, 3, false) = 1
            window(1, 201, 1, true) ! 6
            window(1, -201, 1, true) ! 6
            window(1, 2147483647, 1, true) ! 6
            window(1, -2147483648, 1, true) ! 6
            window(1, 0, 0, true) ! 6
            window(1, 0, -1, true) ! 6
            window(1, 0, 21, true) ! 6
            window(1, 0, 2147483647, true) ! 6
            window(1, 0, -2147483648, true) ! 6
            window(1, 201, 21, true) ! 6
            digest of 0 | 0 | 3 1 2 | 3 0 5 | 0 0 0 0 0 | 0
            window(0, 200, 20, true) = 1
            window(0, -200, 1, true) = 1
            """);
    }

    private static void layer() {
        Sentence.test("Promise 18", "A LAYER of a KIND: its number.", """
            k from 0 to 4: layer(k) = k
            layer(9) ! 6
            layer(3) = 5                           # a refused one takes no number
            undo() = 1
            layer(2) = 5
            tell(5) = 2000
            hole(0, 0) = 0
            lay(5, 0, 7) = 7
            undo() = 1
            undo() = 1
            undo() = 1
            layer(0) = 5
            hole(0, 0) = 0
            top(5, 0) ! 9                          # a new one has no TOP
            """);
        Sentence.test("Promise 18", "6: KIND, no room.", """
            layer(-1) ! 6
            layer(5) ! 6
            layer(-2147483648) ! 6
            layer(2147483647) ! 6
            k from 0 to 15: layer(4) = k
            layer(4) ! 6
            layer(5) ! 6
            tell(15) = 4000
            undo() = 1
            layer(5) ! 6
            layer(0) = 15
            """);
    }

    private static void lay() {
        Sentence.test("Promise 19", "A LAYER's TOP in a HOLE; -1: it has none: the TOP.", """
            layer(0) = 0
            hole(0, 0) = 0
            lay(0, 0, -1) = -1                     # it had none
            status() = 0
            lay(0, 0, 0) = 0
            lay(0, 0, 10000000) = 10000000
            top(0, 0) = 10000000
            lay(0, 0, -1) = -1
            status() = 0
            top(0, 0) ! 9
            find(0) ! 9
            """);
        Sentence.test("Promise 19", "6; 2, 1 of the LAYER, 2, 1 of the HOLE; 10; 7.", """
            lay(16, 24, -2) ! 6
            lay(16, 24, 10000001) ! 6
            lay(16, 24, -2147483648) ! 6
            lay(16, 24, 2147483647) ! 6
            lay(16, 24, 0) ! 2
            lay(-1, 24, 0) ! 2
            lay(15, 24, 0) ! 1
            layer(2) = 0
            layer(0) = 1
            layer(0) = 2
            shift(0) = 0
            lay(0, 24, 0) ! 2
            lay(0, -1, 0) ! 2
            lay(0, 23, 0) ! 1
            hole(0, 0) = 0
            lay(0, 0, -2) ! 6
            lay(0, 0, 0) ! 10
            lay(0, 0, -1) ! 10
            lay(2, 0, 7) = 7
            lay(1, 0, 8) ! 7
            lay(1, 0, 10000001) ! 6
            lay(1, 0, 7) = 7
            lay(2, 0, 6) ! 7
            lay(1, 0, -1) = -1                     # to have none is never out of ORDER
            lay(2, 0, 0) = 0
            lay(1, 0, 0) = 0
            """);
    }

    private static void pick() {
        Sentence.test("Promise 20", "A LAYER's TOP is where its PLACE is in the LOG of a HOLE: the TOP.", """
            k from 0 to 4: layer(k) = k
            hole(0, 0) = 0
            hole(1, 0) = 1
            doubles(1, 5, 6) = 6
            start(1, 5, 1000, 7) = 1
            fill(1, 5, 0, 6, -2, 0, 1) = 6         # -2 to 3
            pick(0, 1, 5) = 1014
            pick(1, 1, 5) = 1014
            pick(2, 1, 5) = 1007
            pick(3, 1, 5) = 1035
            pick(4, 1, 5) = 1035
            top(4, 1) = 1035
            top(4, 0) ! 9
            lay(1, 1, -1) = -1
            lay(4, 1, -1) = -1
            start(1, 5, 10000000, 10000) = 1
            endless(1, 5, 0, false) = 1
            pick(4, 1, 5) = 10000000               # the deepest
            start(1, 5, 0, 1) = 1
            pick(4, 1, 5) ! 7                      # LAYER 0 is at 1014
            lay(0, 1, 0) = 0
            pick(4, 1, 5) = 0
            """);
        Sentence.test("Promise 20", "2, 1 of the LAYER; 2, 1, 2, 1; 10; 9: there is no PLACE; 6: it lies above 10000000; 7.", """
            pick(16, 24, 6) ! 2
            pick(-1, 24, 6) ! 2
            pick(0, 24, 6) ! 1
            layer(3) = 0
            layer(0) = 1
            layer(4) = 2
            shift(0) = 0
            pick(0, 24, 6) ! 2
            pick(0, -1, 6) ! 2
            pick(0, 0, 6) ! 1
            hole(0, 0) = 0
            pick(0, 0, 6) ! 2
            pick(0, 0, -1) ! 2
            pick(0, 0, 0) ! 1
            shorts(0, 0, 0) = 0
            pick(0, 0, 0) ! 10
            ran(3) = 0
            back(0) = 0
            pick(0, 0, 0) ! 9
            ran(3) = 1
            lay(1, 0, 10000000) = 10000000
            pick(2, 0, 0) ! 9
            shorts(0, 0, 2) = 2
            start(0, 0, 10000000, 1) = 1
            put(0, 0, 1, 1, 0) = 1
            pick(2, 0, 0) ! 6                      # 10000001
            pick(0, 0, 0) ! 6
            start(0, 0, 9999999, 1) = 1
            pick(2, 0, 0) = 10000000
            start(0, 0, 9999998, 1) = 1
            pick(2, 0, 0) ! 7                      # 9999999
            top(2, 0) = 10000000
            pick(0, 0, 0) = 9999999
            shorts(0, 1, 300) = 300
            put(0, 1, 299, 1, 0) = 1
            start(0, 1, 10000000, 10000) = 1
            pick(2, 0, 1) ! 6                      # 12990000, the deepest that there is
            """);
    }

    private static void line() {
        Sentence.test("Promise 21", "A FAULT's LINE: 1.", """
            layer(2) = 0
            layer(3) = 1
            line(0, -1000, 1000, 2000000) = 1
            line(1, 1000, -1000, -2000000) = 1
            throwOf(0, 9) = 9
            line(0, 1, 2, 3) = 1                   # THROW stays
            digest of 0 | 2 1 2 3 9 0 | 3 1000 -1000 -2000000 0 0 | 0 | 3 1 2 | 1 1 0 | 0 0 0 0 0 | 0
            """);
        Sentence.test("Promise 21", "6; 2, 1; 3; 10.", """
            line(16, -1001, 0, 0) ! 6
            line(16, 1001, 0, 0) ! 6
            line(16, 0, -1001, 0) ! 6
            line(16, 0, 1001, 0) ! 6
            line(16, 0, 0, -2000001) ! 6
            line(16, 0, 0, 2000001) ! 6
            line(16, 0, 0, 0) ! 2
            line(-1, 0, 0, 0) ! 2
            line(15, 0, 0, 0) ! 1
            layer(0) = 0
            layer(1) = 1
            layer(4) = 2
            k from 0 to 2: line(k, 0, 0, 0) ! 3
            line(0, 1001, 0, 0) ! 6
            layer(3) = 3
            shift(3) = 0
            line(3, 1001, 0, 0) ! 6
            line(3, 0, 0, 0) ! 10
            back(3) = 0
            line(3, 0, 0, 0) = 1
            """);
    }

    private static void throwOf() {
        Sentence.test("Promise 22", "A FAULT's THROW: it.", """
            layer(2) = 0
            layer(3) = 1
            throwOf(0, 100000) = 100000
            throwOf(1, -100000) = -100000
            throwOf(0, -1) = -1
            status() = 0
            line(0, 1, 2, 3) = 1
            throwOf(0, 0) = 0                      # the LINE stays
            digest of 0 | 2 1 2 3 0 0 | 3 0 0 0 -100000 0 | 0 | 3 1 2 | 1 1 0 | 0 0 0 0 0 | 0
            """);
        Sentence.test("Promise 22", "6; 2, 1; 3; 10.", """
            throwOf(16, -100001) ! 6
            throwOf(16, 100001) ! 6
            throwOf(16, -2147483648) ! 6
            throwOf(16, 2147483647) ! 6
            throwOf(16, 0) ! 2
            throwOf(-1, 0) ! 2
            throwOf(15, 0) ! 1
            layer(0) = 0
            layer(1) = 1
            layer(4) = 2
            k from 0 to 2: throwOf(k, 0) ! 3
            throwOf(0, 100001) ! 6
            layer(2) = 3
            shift(3) = 0
            throwOf(3, 100001) ! 6
            throwOf(3, 0) ! 10
            back(3) = 0
            throwOf(3, 0) = 0
            """);
    }

    private static void shift() {
        Sentence.test("Promise 23", "A FAULT is SHIFTED: how many TOPS of BEDS were greater than its own, in all HOLES where it"
                + " has one (by whatever MOVE).", """
            layer(2) = 0
            layer(3) = 1
            layer(0) = 2
            layer(1) = 3
            layer(4) = 4
            shift(0) = 0                           # no HOLE
            isShifted(0) = 1
            isShifted(1) = 0
            back(0) = 0
            hole(5, 0) = 0
            hole(0, 0) = 1
            hole(-5, 0) = 2
            hole(9, 9) = 3
            k from 0 to 3: lay(2, k, 50) = 50
            k from 0 to 3: lay(3, k, 51) = 51
            k from 0 to 3: lay(4, k, 10000000) = 10000000
            shift(0) = 0                           # it has no TOP
            back(0) = 0
            k from 0 to 2: lay(0, k, 50) = 50
            k from 0 to 2: lay(1, k, 9999999) = 9999999
            shift(0) = 6                           # 51 and 10000000 in three HOLES, by 0
            shift(1) = 3
            top(4, 0) = 10000000
            back(1) = 3
            back(0) = 6
            line(0, 1, 0, 0) = 1
            throwOf(0, -1) = -1
            lay(0, 0, -1) = -1
            shift(0) = 4                           # SIDES 0 and -1
            back(0) = 4
            lay(0, 0, 51) = 51
            shift(0) = 5
            top(4, 0) = 9999999
            k from 1 to 3: top(4, k) = 10000000
            """);
        Sentence.test("Promise 23", "2, 1; 3; 10: it is already; 7.", """
            shift(16) ! 2
            shift(-1) ! 2
            shift(15) ! 1
            layer(0) = 0
            layer(1) = 1
            layer(4) = 2
            k from 0 to 2: shift(k) ! 3
            layer(2) = 3
            hole(1, 0) = 0
            line(3, 1, 0, 0) = 1
            throwOf(3, 1) = 1
            lay(3, 0, 10) = 10
            lay(2, 0, 10000000) = 10000000
            shift(3) ! 7                           # above 10000000
            isShifted(3) = 0
            lay(2, 0, 9999999) = 9999999
            shift(3) = 1
            shift(3) ! 10                          # 7 would be told, too
            top(2, 0) = 10000000
            back(3) = 1
            throwOf(3, -100000) = -100000
            lay(2, 0, 100010) = 100010
            shift(3) ! 7                           # no longer greater
            lay(2, 0, 100011) = 100011
            shift(3) = 1
            top(2, 0) = 11
            """);
        Sentence.test("Promise 23", "2, 1; 3; 10: it is already; 7.", """
            layer(3) = 0                           # the last of many is the one that can't
            k from 1 to 15: layer(0) = k
            k from 0 to 23: hole(k, 1) = k
            line(0, 0, 1, 0) = 1
            throwOf(0, 5) = 5
            k from 0 to 23: lay(0, k, 1) = 1
            k from 0 to 23: lay(1, k, 2) = 2
            lay(15, 23, 9999996) = 9999996
            same before
            shift(0) ! 7
            same before
            lay(15, 23, 9999995) = 9999995
            shift(0) = 25
            top(15, 23) = 10000000
            top(1, 0) = 7
            top(1, 23) = 7
            """);
    }

    private static void back() {
        Sentence.test("Promise 24", "It is taken back: how many TOPS, as told by shift().", """
            layer(3) = 0
            layer(0) = 1
            layer(4) = 2
            hole(5, 0) = 0
            hole(-5, 0) = 1
            line(0, 1, 0, 0) = 1
            throwOf(0, 40) = 40
            k from 0 to 1: lay(0, k, 10) = 10
            k from 0 to 1: lay(1, k, 10) = 10
            k from 0 to 1: lay(2, k, 60) = 60
            same before
            shift(0) = 2
            top(2, 0) = 100
            top(2, 1) = 20
            back(0) = 2
            same before
            isShifted(0) = 0
            shift(0) = 2
            lay(1, 0, 51) = 51                     # one more is greater now
            back(0) = 3
            top(1, 0) = 11
            shift(0) = 3
            lay(1, 0, -1) = -1
            lay(2, 0, 10) = 10                     # and one less
            lay(2, 1, -1) = -1
            back(0) = 0
            top(2, 0) = 10
            """);
        Sentence.test("Promise 24", "2, 1; 3; 10: it is not SHIFTED; 7.", """
            back(16) ! 2
            back(-1) ! 2
            back(15) ! 1
            layer(0) = 0
            layer(1) = 1
            layer(4) = 2
            k from 0 to 2: back(k) ! 3
            layer(3) = 3
            back(3) ! 10
            hole(1, 0) = 0
            hole(-1, 0) = 1
            line(3, 1, 0, 0) = 1
            throwOf(3, 1) = 1
            k from 0 to 1: lay(3, k, 10) = 10
            lay(2, 0, 11) = 11
            lay(2, 1, 12) = 12
            back(3) ! 10
            shift(3) = 2
            lay(2, 0, 11) = 11
            back(3) ! 7                            # 10 is not greater than 10
            isShifted(3) = 1
            lay(2, 0, 12) = 12
            lay(2, 1, 10000000) = 10000000
            back(3) ! 7                            # 10000001
            top(2, 0) = 12
            lay(2, 1, 9999999) = 9999999
            back(3) = 2
            top(2, 0) = 11
            top(2, 1) = 10000000
            back(3) ! 10
            """);
    }

    private static void costs() {
        Sentence.test("Promise 25", "UNLIKE, STRETCHED, OUT: 1.", """
            costs(0, 0, 0) = 1
            digest of 0 | 0 | 0 0 0 | 1 1 0 | 0 0 0 0 0 | 0
            costs(100, 0, 0) = 1
            digest of 0 | 0 | 100 0 0 | 1 1 0 | 0 0 0 0 0 | 0
            costs(0, 100, 0) = 1
            digest of 0 | 0 | 0 100 0 | 1 1 0 | 0 0 0 0 0 | 0
            costs(0, 0, 100) = 1
            digest of 0 | 0 | 0 0 100 | 1 1 0 | 0 0 0 0 0 | 0
            """);
        Sentence.test("Promise 25", " 6.", """
            costs(-1, 0, 0) ! 6
            costs(0, -1, 0) ! 6
            costs(0, 0, -1) ! 6
            costs(101, 0, 0) ! 6
            costs(0, 101, 0) ! 6
            costs(0, 0, 101) ! 6
            costs(-2147483648, 0, 0) ! 6
            costs(0, -2147483648, 0) ! 6
            costs(0, 0, -2147483648) ! 6
            costs(2147483647, 0, 0) ! 6
            costs(0, 2147483647, 0) ! 6
            costs(0, 0, 2147483647) ! 6
            digest of 0 | 0 | 3 1 2 | 1 1 0 | 0 0 0 0 0 | 0
            """);
    }

    private static void triangle() {
        Sentence.test("Promise 26", "A TRIANGLE: its number.", """
            hole(0, 0) = 0
            hole(9, 0) = 1
            hole(0, 9) = 2
            hole(9, 9) = 3
            triangle(2, 0, 1) = 0
            triangle(0, 1, 2) ! 6
            triangle(3, 2, 1) = 1                  # a refused one takes no number
            triangles() = 2
            digest of 4 | 0 0 0 0 0 0 0 0 | 9 0 0 0 0 0 0 0 | 0 9 0 0 0 0 0 0 | 9 9 0 0 0 0 0 0 | 2 | 2 0 1 | 3 2 1 | 3 1 2 | 1 1 0 | 0 0 0 0 0 | 0
            undo() = 1
            triangles() = 1
            triangle(1, 2, 3) = 1
            """);
        Sentence.test("Promise 26", "2, 1 of each HOLE", """
            triangle(24, 24, 24) ! 2
            triangle(-1, 0, 0) ! 2
            triangle(0, 24, 24) ! 1
            triangle(23, 24, 24) ! 1
            hole(0, 0) = 0
            triangle(0, 24, 24) ! 2
            triangle(0, -1, 1) ! 2
            triangle(0, 1, 24) ! 1
            triangle(0, 0, 24) ! 2
            triangle(0, 0, -1) ! 2
            triangle(0, 0, 1) ! 1
            triangle(0, 0, 23) ! 1
            triangle(0, 0, 0) ! 6
            triangle(-2147483648, 0, 0) ! 2
            triangle(0, 2147483647, 0) ! 2
            triangle(0, 0, 2147483647) ! 2
            """);
        Sentence.test("Promise 26", "; 6: on one line", """
            hole(-1000, -1000) = 0
            hole(0, 0) = 1
            hole(1000, 1000) = 2
            hole(999, 1000) = 3
            triangle(0, 1, 2) ! 6
            triangle(1, 0, 2) ! 6
            triangle(0, 2, 2) ! 6
            triangle(0, 1, 3) = 0
            """);
        Sentence.test("Promise 26", ", points inside another one", """
            hole(0, 0) = 0
            hole(9, 0) = 1
            hole(0, 9) = 2
            hole(9, 9) = 3
            hole(3, 3) = 4
            triangle(0, 1, 2) = 0
            triangle(0, 1, 3) ! 6
            triangle(0, 1, 4) ! 6
            triangle(4, 3, 1) ! 6
            triangle(1, 2, 3) = 1
            triangle(4, 3, 1) ! 6
            """);
        Sentence.test("Promise 26", ", or no room.", """
            hole(-1000, 0) = 0
            hole(1000, 0) = 1
            k from 2 to 23: hole(0, k) = k
            k from 2 to 22: triangle(0, k, k+1) = k-2
            k from 2 to 20: triangle(1, k, k+1) = k+19
            triangles() = 40
            triangle(1, 21, 22) ! 6
            triangle(24, 21, 22) ! 2               # 2 is told first
            undo() = 1
            triangle(1, 21, 22) = 39
            """);
    }

    private static void undo() {
        Sentence.test("Promise 27", "What the latest change changed is taken back: 1", """
            hole(0, 0) = 0
            same one
            hole(1, 0) = 1
            same two
            shorts(1, 0, 3) = 3
            undo() = 1
            same two
            undo() = 1
            same one
            hole(2, 0) = 1
            undo() = 1
            same one
            """);
        Sentence.test("Promise 27", "; 0: there is none.", """
            undo() = 0
            status() = 0
            undo() = 0
            feed(1, 2, 3, 4, 5) = 20               # no change that is taken back
            undo() = 0
            hole(9999, 0) ! 6
            undo() = 0                             # nor is a refused one
            status() = 0
            end(20) = 20
            hole(0, 0) = 0
            undo() = 1
            undo() = 0
            kind(0, 0) ! 1
            """);
        Sentence.test("Promise 27", "; 0: there is none.", """
            hole(0, 0) = 0
            255 * lack(0, 0)
            255 * undo()
            undo() = 1                             # the 512th call takes the first one back
            kind(0, 0) ! 1
            undo() = 0
            """);
    }
}
