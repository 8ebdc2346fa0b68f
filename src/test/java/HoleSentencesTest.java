/** Sentences of promises 1 to 16: the TAPE, HOLES and LOGS. */
public final class HoleSentencesTest {
    public static void main(String[] args) {
        tape();
        holes();
        zeros();
        codes();
        lack();
        start();
        put();
        fill();
        none();
        endless();
        copy();
        splice();
        Sentence.finishPromises(1, 16);
    }

    private static void tape() {
        Sentence.test("Promise 1", "No HOLES, LAYERS, TRIANGLES, ROWS, EDGES; the TAPE is empty.", """
            status() = 0
            triangles() = 0
            rows() = 0
            copied() = 0
            k from -1 to 5: ran(k) = 0
            digest of 0 | 0 | 3 1 2 | 1 1 0 | 0 0 0 0 0 | 0
            kind(0, 0) ! 1
            tell(0) ! 1
            isBroken(0) ! 1
            row(0) ! 2
            edge(0) ! 2
            end(1) ! 2
            end(0) = 0
            hole(0, 0) = 0
            codes(0, 0) = 0
            """);
        Sentence.test("Promise 2", "The 20 bytes of five ints, the highest of each first", """
            feed(16909060, 2147483647, -2147483648, -1, 84281096) = 20
            hole(0, 0) = 0
            codes(0, 0) = 20
            digest of 1 | 0 0 4 0 100 20 | 1 2 3 4 | 127 255 255 255 | 128 0 0 0 | 255 255 255 255 | 5 6 7 8 | 0 0 0 0 0 | 0 | 3 1 2 | 1 1 0 | 0 0 0 0 0 | 0
            value(0, 0, 8) = 128
            value(0, 0, 19) = 8
            """);
        Sentence.test("Promise 2", ", come behind the TAPE: how many it has.", """
            feed(16909060, 0, 0, 0, 0) = 20
            feed(84281096, 0, 0, 0, 9) = 40
            end(39) = 39
            feed(0, 0, 0, 0, 7) = 59
            end(1) = 1
            feed(50529027, 0, 0, 0, 0) = 21
            hole(0, 0) = 0
            codes(0, 0) = 21
            value(0, 0, 0) = 1
            value(0, 0, 1) = 3
            value(0, 0, 4) = 3
            value(0, 0, 5) = 0
            feed(0, 0, 0, 0, 0) = 20               # codes() has emptied it
            """);
        Sentence.test("Promise 2", "6: above 300.", """
            14 * feed(1, 1, 1, 1, 1)
            feed(2, 2, 2, 2, 2) = 300
            feed(3, 3, 3, 3, 3) ! 6
            end(300) = 300
            end(281) = 281
            feed(3, 3, 3, 3, 3) ! 6                # 301
            end(280) = 280
            feed(4, 4, 4, 4, 4) = 300
            feed(3, 3, 3, 3, 3) ! 6
            hole(0, 0) = 0
            codes(0, 0) = 300
            value(0, 0, 279) = 1
            value(0, 0, 283) = 4
            value(0, 0, 299) = 4
            """);
        Sentence.test("Promise 3", "The TAPE keeps its first n bytes: n.", """
            end(0) = 0
            feed(16909060, 84281096, 0, 0, 0) = 20
            end(20) = 20
            end(6) = 6
            hole(0, 0) = 0
            codes(0, 0) = 6
            k from 0 to 5: value(0, 0, k) = k+1
            value(0, 0, 6) ! 2
            feed(16909060, 0, 0, 0, 0) = 20
            end(0) = 0
            codes(0, 0) = 0
            15 * feed(0, 0, 0, 0, 9)
            end(300) = 300
            codes(0, 1) = 300
            value(0, 1, 299) = 9
            """);
        Sentence.test("Promise 3", "2: below 0, or it has not so many.", """
            end(-1) ! 2
            end(1) ! 2
            feed(1, 2, 3, 4, 5) = 20
            end(-1) ! 2
            end(-2147483648) ! 2
            end(21) ! 2
            end(2147483647) ! 2
            end(20) = 20                           # it was left as it was
            end(19) = 19
            end(20) ! 2                            # what is gone is gone
            end(19) = 19
            """);
    }

    private static void holes() {
        Sentence.test("Promise 4", "A HOLE: its number.", """
            hole(7, 7) = 0
            hole(2000, 0) ! 6
            hole(8, 7) = 1                         # a refused one takes no number
            undo() = 1
            hole(9, 7) = 1
            k from 2 to 23: hole(k, 0) = k
            """);
        Sentence.test("Promise 4", "6: X, Y", """
            hole(-1001, 0) ! 6
            hole(1001, 0) ! 6
            hole(0, -1001) ! 6
            hole(0, 1001) ! 6
            hole(-1000, -1000) = 0
            hole(1000, 1000) = 1
            """);
        Sentence.test("Promise 4", ", one is there", """
            hole(5, -5) = 0
            hole(5, -5) ! 6
            hole(-5, 5) = 1
            k from 2 to 22: hole(k, 0) = k
            hole(5, -5) ! 6
            hole(22, 0) ! 6
            hole(23, 0) = 23
            undo() = 1
            hole(23, 0) = 23                       # what is taken back is not there
            """);
        Sentence.test("Promise 4", ", or no room.", """
            k from 0 to 23: hole(k, 0) = k
            hole(24, 0) ! 6
            hole(0, 0) ! 6
            hole(-24, 0) ! 6
            kind(23, 0) = 0
            undo() = 1
            hole(24, 0) = 23
            hole(23, 0) ! 6
            """);
    }

    private static void zeros() {
        String[][] kinds = {{"Promise 5", "doubles", "1"}, {"Promise 6", "floats", "2"}, {"Promise 7", "shorts", "3"}};
        for (String[] kind : kinds) {
            String held = kind[2].equals("1") ? "A SLOT (2, 1, 2) holds a LOG of n doubles: n." : "Likewise of n " + kind[1] + ".";
            String refused = kind[2].equals("1") ? "6: above 300; 4." : "Likewise of n " + kind[1] + ".";
            Sentence.test(kind[0], held, """
                NAME(24, 6, 1) ! 2
                NAME(-1, 6, 1) ! 2
                NAME(23, 6, 1) ! 1
                hole(0, 0) = 0
                NAME(1, 6, 1) ! 1
                NAME(0, 6, 1) ! 2
                NAME(0, -1, 1) ! 2
                NAME(0, 5, 0) = 0                  # a LOG without VALUES
                kind(0, 5) = KIND
                length(0, 5) = 0
                value(0, 5, 0) ! 2
                NAME(0, 0, 300) = 300              # the longest
                length(0, 0) = 300
                value(0, 0, 299) = 0
                put(0, 0, 1, 5, 0) = 5
                start(0, 0, 7, 8) = 1
                NAME(0, 0, 2) = 2                  # a new one in its place
                digest of 1 | 0 0 KIND 0 100 2 0 0 | 0 0 0 0 KIND 0 100 0 | 0 | 3 1 2 | 1 1 0 | 0 0 0 0 0 | 0
                """.replace("NAME", kind[1]).replace("KIND", kind[2]));
            Sentence.test(kind[0], refused, """
                NAME(24, 6, 301) ! 2
                NAME(0, 6, 301) ! 1
                hole(0, 0) = 0
                NAME(0, 6, 301) ! 2
                NAME(0, 6, -1) ! 2
                NAME(0, 0, 301) ! 6
                NAME(0, 0, 2147483647) ! 6
                NAME(0, 0, -1) ! 4
                NAME(0, 0, -2147483648) ! 4
                kind(0, 0) = 0
                NAME(0, 0, 3) = 3
                NAME(0, 0, 301) ! 6                # the LOG that is there stays
                NAME(0, 0, -1) ! 4
                length(0, 0) = 3
                """.replace("NAME", kind[1]));
        }
    }

    private static void codes() {
        Sentence.test("Promise 8", "A SLOT (2, 1, 2) holds a LOG of codes, the bytes of the TAPE", """
            codes(24, 6) ! 2
            codes(-1, 6) ! 2
            codes(23, 6) ! 1
            hole(0, 0) = 0
            codes(0, 6) ! 2
            codes(0, -1) ! 2
            doubles(0, 5, 1) = 1
            start(0, 5, 7, 8) = 1
            feed(-1, 0, 0, 0, 127) = 20
            codes(0, 5) = 20
            kind(0, 5) = 4
            value(0, 5, 0) = 255                   # a byte has no sign here
            value(0, 5, 19) = 127
            codes(0, 5) = 0                        # of an empty TAPE
            digest of 1 | 0 0 0 0 0 0 0 4 0 100 0 | 0 | 3 1 2 | 1 1 0 | 0 0 0 0 0 | 0
            """);
        Sentence.test("Promise 8", ", which is empty then (not if it is refused): how many.", """
            15 * feed(1, 2, 3, 4, 5)
            codes(24, 0) ! 2
            codes(0, 0) ! 1
            hole(0, 0) = 0
            codes(0, 6) ! 2
            end(300) = 300
            codes(0, 0) = 300
            end(1) ! 2
            feed(1, 2, 3, 4, 5) = 20
            end(1) = 1
            codes(0, 1) = 1
            codes(0, 2) = 0
            length(0, 2) = 0
            undo() = 1
            undo() = 1
            end(1) ! 2                             # undo() does not bring the bytes back
            """);
    }

    private static void lack() {
        Sentence.test("Promise 9", "A SLOT (2, 1, 2) lacks from now on: 1 if it did not, else 0.", """
            lack(24, 6) ! 2
            lack(-1, 6) ! 2
            lack(0, 6) ! 1
            hole(0, 0) = 0
            lack(0, 6) ! 2
            lack(0, -1) ! 2
            lack(0, 5) = 0
            doubles(0, 5, 0) = 0
            lack(0, 5) = 1                         # a LOG without VALUES is one
            lack(0, 5) = 0
            kind(0, 5) = 0
            length(0, 5) ! 1
            undo() = 1                             # of the one that changed nothing
            kind(0, 5) = 0
            undo() = 1
            kind(0, 5) = 1
            """);
    }

    private static void start() {
        Sentence.test("Promise 10", "START and STEP of a LOG: 1.", """
            hole(0, 0) = 0
            doubles(0, 0, 0) = 0
            start(0, 0, 0, 1) = 1
            start(0, 0, 10000000, 10000) = 1
            digest of 1 | 0 0 1 10000000 10000 0 0 0 0 0 0 | 0 | 3 1 2 | 1 1 0 | 0 0 0 0 0 | 0
            shorts(0, 0, 2) = 2
            fill(0, 0, 0, 2, 5, 0, 1) = 2
            start(0, 0, 3, 4) = 1                  # VALUES stay
            digest of 1 | 0 0 3 3 4 2 5 6 0 0 0 0 0 | 0 | 3 1 2 | 1 1 0 | 0 0 0 0 0 | 0
            """);
        Sentence.test("Promise 10", "6: one of them; 2, 1, 2, 1.", """
            start(24, 6, -1, 1) ! 6
            start(24, 6, 10000001, 1) ! 6
            start(24, 6, 0, 0) ! 6
            start(24, 6, 0, 10001) ! 6
            start(24, 6, 0, -2147483648) ! 6
            start(24, 6, 0, 1) ! 2
            start(-1, 6, 0, 1) ! 2
            start(0, 6, 0, 1) ! 1
            hole(0, 0) = 0
            start(0, 6, 0, 1) ! 2
            start(0, -1, 0, 1) ! 2
            start(0, 0, 0, 1) ! 1
            codes(0, 0) = 0
            start(0, 0, 0, 0) ! 6
            start(0, 0, 0, 1) = 1
            """);
    }

    private static void put() {
        Sentence.test("Promise 11", "VALUE i is a NUMBER: its WHOLE PART.", """
            hole(0, 0) = 0
            doubles(0, 0, 300) = 300
            put(0, 0, 0, 7, -1) = 3
            put(0, 0, 299, -7, -1) = -3
            value(0, 0, 0) = 3
            value(0, 0, 299) = -3
            value(0, 0, 1) = 0
            value(0, 0, 298) = 0
            put(0, 0, 0, -1, 0) = -1               # an answer, not a refusal
            status() = 0
            put(0, 0, 0, 2147483647, 200) = 9223372036854775807
            put(0, 0, 0, -2147483648, -200) = 0
            floats(0, 1, 1) = 1
            put(0, 1, 0, 16777217, 0) = 16777216   # of the VALUE, as it is then
            shorts(0, 2, 1) = 1
            put(0, 2, 0, 70000, 0) = 4464
            feed(0, 0, 0, 0, 0) = 20
            codes(0, 3) = 20
            put(0, 3, 19, -2, 0) = 65534
            none(0, 1, 0) = 1
            put(0, 1, 0, 4, 0) = 4                 # no NONE any more
            value(0, 1, 0) = 4
            endless(0, 1, 0, true) = 1
            put(0, 1, 0, 5, 0) = 5
            value(0, 1, 0) = 5
            """);
        Sentence.test("Promise 11", "6: e; 2, 1, 2, 1; 2.", """
            put(24, 6, -1, 1, 201) ! 6
            put(24, 6, -1, 1, -201) ! 6
            put(24, 6, -1, 1, 200) ! 2
            put(-1, 6, -1, 1, -200) ! 2
            put(0, 6, -1, 1, 0) ! 1
            hole(0, 0) = 0
            put(0, 6, -1, 1, 0) ! 2
            put(0, -1, -1, 1, 0) ! 2
            put(0, 0, -1, 1, 0) ! 1
            doubles(0, 0, 3) = 3
            put(0, 0, -1, 1, 201) ! 6
            put(0, 0, -1, 1, 0) ! 2
            put(0, 0, 3, 1, 0) ! 2
            put(0, 0, -2147483648, 1, 0) ! 2
            put(0, 0, 2147483647, 1, 0) ! 2
            put(0, 0, 2, 1, 0) = 1
            doubles(0, 0, 0) = 0
            put(0, 0, 0, 1, 0) ! 2
            """);
    }

    private static void fill() {
        Sentence.test("Promise 12", "VALUES from one on, so many, are the NUMBERS n, n + by, n + 2 * by, ..", """
            hole(0, 0) = 0
            doubles(0, 0, 300) = 300
            fill(0, 0, 0, 300, -150, 0, 1) = 300
            value(0, 0, 0) = -150
            value(0, 0, 299) = 149
            fill(0, 0, 298, 2, 3, 1, -5) = 2
            value(0, 0, 297) = 147
            value(0, 0, 298) = 6
            value(0, 0, 299) = -4
            fill(0, 0, 299, 1, 9, 0, 7) = 1
            value(0, 0, 299) = 9
            fill(0, 0, 0, 2, 5, 0, 0) = 2
            value(0, 0, 1) = 5
            none(0, 0, 3) = 1
            none(0, 0, 4) = 1
            fill(0, 0, 3, 1, 8, 0, 0) = 1
            value(0, 0, 3) = 8
            value(0, 0, 4) ! 9
            """);
        Sentence.test("Promise 12", "(beyond an int, too) with e: how many.", """
            hole(0, 0) = 0
            doubles(0, 0, 300) = 300
            fill(0, 0, 0, 300, 2147483647, 0, 1) = 300
            value(0, 0, 0) = 2147483647
            value(0, 0, 1) = 2147483648
            fill(0, 0, 0, 300, 2147483647, 0, 2147483647) = 300
            value(0, 0, 299) = 644245094100
            fill(0, 0, 0, 300, -2147483648, 0, -2147483648) = 300
            value(0, 0, 299) = -644245094400
            fill(0, 0, 0, 2, -2147483648, 0, 2147483647) = 2
            value(0, 0, 1) = -1
            fill(0, 0, 0, 300, -2147483648, -10, -2147483648) = 300
            value(0, 0, 299) = -629145600
            fill(0, 0, 0, 2, 1, 200, 1) = 2
            value(0, 0, 1) = 9223372036854775807
            fill(0, 0, 0, 2, 1, -200, 1) = 2
            value(0, 0, 1) = 0
            shorts(0, 1, 3) = 3
            fill(0, 1, 0, 3, 32767, 0, 1) = 3
            value(0, 1, 1) = -32768
            fill(0, 1, 0, 3, 2147483646, 0, 1) = 3
            value(0, 1, 0) = -2
            value(0, 1, 2) = -1                    # the nearest int, twice
            floats(0, 2, 3) = 3
            fill(0, 2, 0, 3, 2147483647, 0, 2147483647) = 3
            value(0, 2, 2) = 6442450944            # 6442450941 as a float
            feed(0, 0, 0, 0, 0) = 20
            codes(0, 3) = 20
            fill(0, 3, 0, 20, -1, 0, -1) = 20
            value(0, 3, 0) = 65535
            value(0, 3, 19) = 65516
            """);
        Sentence.test("Promise 12", "6: e; 2, 1, 2, 1; 4: so many; 2: one is not there.", """
            fill(24, 6, -1, -1, 1, 201, 1) ! 6
            fill(24, 6, -1, -1, 1, -201, 1) ! 6
            fill(24, 6, -1, -1, 1, 200, 1) ! 2
            fill(-1, 6, -1, -1, 1, -200, 1) ! 2
            fill(0, 6, -1, -1, 1, 0, 1) ! 1
            hole(0, 0) = 0
            fill(0, 6, -1, -1, 1, 0, 1) ! 2
            fill(0, -1, -1, -1, 1, 0, 1) ! 2
            fill(0, 0, -1, -1, 1, 0, 1) ! 1
            shorts(0, 0, 5) = 5
            fill(0, 0, -1, -1, 1, 0, 1) ! 4
            fill(0, 0, -1, -2147483648, 1, 0, 1) ! 4
            fill(0, 0, -1, 1, 1, 0, 1) ! 2
            fill(0, 0, 5, 1, 1, 0, 1) ! 2
            fill(0, 0, 4, 2, 1, 0, 1) ! 2          # the last one of them is not there
            fill(0, 0, -1, 6, 1, 0, 1) ! 2         # the first is not
            fill(0, 0, 0, 6, 1, 0, 1) ! 2
            fill(0, 0, 0, 2147483647, 1, 0, 1) ! 2
            fill(0, 0, 2147483647, 1, 1, 0, 1) ! 2
            fill(0, 0, 2147483647, 2147483647, 1, 0, 1) ! 2
            fill(0, 0, -2147483648, 2147483647, 1, 0, 1) ! 2
            mean(0, 0) = 0                         # none of them is changed
            fill(0, 0, 0, 0, 1, 0, 1) = 0
            fill(0, 0, 5, 0, 1, 0, 1) = 0          # none, behind the last one
            fill(0, 0, 0, 5, 1, 0, 0) = 5
            mean(0, 0) = 1
            shorts(0, 0, 0) = 0
            fill(0, 0, 0, 0, 1, 0, 1) = 0
            fill(0, 0, 0, 1, 1, 0, 1) ! 2
            """);
    }

    private static void none() {
        Sentence.test("Promise 13", "VALUE i is NONE: 1.", """
            hole(0, 0) = 0
            doubles(0, 0, 300) = 300
            floats(0, 1, 300) = 300
            k from 0 to 1: none(0, k, 0) = 1
            k from 0 to 1: none(0, k, 299) = 1
            k from 0 to 1: none(0, k, 299) = 1     # again
            k from 0 to 1: value(0, k, 0) ! 9
            k from 0 to 1: value(0, k, 1) = 0
            k from 0 to 1: value(0, k, 298) = 0
            k from 0 to 1: value(0, k, 299) ! 9
            endless(0, 0, 5, true) = 1
            none(0, 0, 5) = 1
            value(0, 0, 5) ! 9
            """);
        Sentence.test("Promise 13", "2, 1, 2, 1; 3: neither doubles nor floats; 2.", """
            none(24, 6, -1) ! 2
            none(-1, 6, -1) ! 2
            none(0, 6, -1) ! 1
            hole(0, 0) = 0
            none(0, 6, -1) ! 2
            none(0, -1, -1) ! 2
            none(0, 0, -1) ! 1
            shorts(0, 0, 1) = 1
            none(0, 0, -1) ! 3
            none(0, 0, 0) ! 3
            feed(0, 0, 0, 0, 0) = 20
            codes(0, 1) = 20
            none(0, 1, 20) ! 3
            none(0, 1, 0) ! 3
            doubles(0, 2, 1) = 1
            floats(0, 3, 0) = 0
            none(0, 2, -1) ! 2
            none(0, 2, 1) ! 2
            none(0, 2, -2147483648) ! 2
            none(0, 2, 2147483647) ! 2
            none(0, 3, 0) ! 2
            none(0, 2, 0) = 1
            """);
    }

    private static void endless() {
        Sentence.test("Promise 14", "VALUE i is ENDLESS, below 0 or above: 1.", """
            hole(0, 0) = 0
            doubles(0, 0, 300) = 300
            floats(0, 1, 300) = 300
            k from 0 to 1: endless(0, k, 0, true) = 1
            k from 0 to 1: endless(0, k, 299, false) = 1
            k from 0 to 1: value(0, k, 0) = -9223372036854775808
            k from 0 to 1: value(0, k, 1) = 0
            k from 0 to 1: value(0, k, 298) = 0
            k from 0 to 1: value(0, k, 299) = 9223372036854775807
            k from 0 to 1: part(0, k, 0, 1, 0, 0) ! 9
            k from 0 to 1: part(0, k, 299, 1, 0, 0) ! 9
            none(0, 0, 5) = 1
            endless(0, 0, 5, true) = 1             # no NONE any more
            value(0, 0, 5) = -9223372036854775808
            endless(0, 0, 5, false) = 1
            value(0, 0, 5) = 9223372036854775807
            """);
        Sentence.test("Promise 14", "2, 1, 2, 1; 3: as none(); 2.", """
            endless(24, 6, -1, true) ! 2
            endless(-1, 6, -1, true) ! 2
            endless(0, 6, -1, false) ! 1
            hole(0, 0) = 0
            endless(0, 6, -1, true) ! 2
            endless(0, -1, -1, true) ! 2
            endless(0, 0, -1, false) ! 1
            shorts(0, 0, 1) = 1
            endless(0, 0, -1, true) ! 3
            endless(0, 0, 0, false) ! 3
            feed(0, 0, 0, 0, 0) = 20
            codes(0, 1) = 20
            endless(0, 1, 20, true) ! 3
            endless(0, 1, 0, false) ! 3
            doubles(0, 2, 1) = 1
            floats(0, 3, 0) = 0
            endless(0, 2, -1, true) ! 2
            endless(0, 2, 1, false) ! 2
            endless(0, 2, -2147483648, true) ! 2
            endless(0, 2, 2147483647, true) ! 2
            endless(0, 3, 0, true) ! 2
            endless(0, 2, 0, true) = 1
            """);
    }

    private static void copy() {
        Sentence.test("Promise 15", "n VALUES of a LOG from one on come to another one's, from place on", """
            hole(0, 0) = 0
            hole(1, 0) = 1
            doubles(0, 0, 300) = 300
            doubles(1, 5, 300) = 300
            fill(0, 0, 0, 300, 1, 0, 1) = 300
            start(0, 0, 5, 6) = 1
            copy(0, 0, 0, 1, 5, 0, 300) = 300      # all
            value(1, 5, 0) = 1
            value(1, 5, 299) = 300
            copy(0, 0, 299, 1, 5, 0, 1) = 1        # the last to the first place
            value(1, 5, 0) = 300
            value(1, 5, 1) = 2
            copy(0, 0, 0, 1, 5, 299, 1) = 1
            value(1, 5, 299) = 1
            value(1, 5, 298) = 299
            copy(0, 0, 0, 1, 5, 0, 0) = 0
            copy(0, 0, 300, 1, 5, 300, 0) = 0      # none, behind the last one
            value(1, 5, 0) = 300
            none(0, 0, 7) = 1
            endless(0, 0, 8, true) = 1
            copy(0, 0, 7, 1, 5, 10, 2) = 2
            value(1, 5, 10) ! 9
            value(1, 5, 11) = -9223372036854775808
            copy(0, 0, 0, 1, 5, 10, 1) = 1         # no NONE any more
            value(1, 5, 10) = 1
            value(0, 0, 0) = 1
            layer(4) = 0
            endless(1, 5, 2, false) = 1
            pick(0, 1, 5) = 200                    # START and STEP do not come
            """);
        Sentence.test("Promise 15", "(as they were ahead of it): n.", """
            hole(0, 0) = 0
            shorts(0, 0, 5) = 5
            fill(0, 0, 0, 5, 1, 0, 1) = 5
            copy(0, 0, 0, 0, 0, 1, 4) = 4
            digest of 1 | 0 0 3 0 100 5 1 1 2 3 4 0 0 0 0 0 | 0 | 3 1 2 | 1 1 0 | 0 0 0 0 0 | 0
            undo() = 1
            copy(0, 0, 1, 0, 0, 0, 4) = 4
            digest of 1 | 0 0 3 0 100 5 2 3 4 5 5 0 0 0 0 0 | 0 | 3 1 2 | 1 1 0 | 0 0 0 0 0 | 0
            undo() = 1
            copy(0, 0, 0, 0, 0, 0, 5) = 5
            digest of 1 | 0 0 3 0 100 5 1 2 3 4 5 0 0 0 0 0 | 0 | 3 1 2 | 1 1 0 | 0 0 0 0 0 | 0
            doubles(0, 0, 4) = 4
            none(0, 0, 0) = 1
            copy(0, 0, 0, 0, 0, 1, 3) = 3
            value(0, 0, 1) ! 9
            value(0, 0, 2) = 0
            value(0, 0, 3) = 0
            """);
        Sentence.test("Promise 15", "2, 1, 2, 1 of the first, then of the other; 3: unlike KINDS; 2: VALUES, or n below 0.", """
            copy(24, 6, -1, 24, 6, -1, -1) ! 2
            copy(-1, 6, -1, 24, 6, -1, -1) ! 2
            copy(0, 6, -1, 24, 6, -1, -1) ! 1
            hole(0, 0) = 0
            copy(0, 6, -1, 24, 6, -1, -1) ! 2
            copy(0, -1, -1, 24, 6, -1, -1) ! 2
            copy(0, 0, -1, 24, 6, -1, -1) ! 1
            doubles(0, 0, 4) = 4
            copy(0, 0, -1, 24, 6, -1, -1) ! 2
            copy(0, 0, -1, -1, 6, -1, -1) ! 2
            copy(0, 0, -1, 1, 6, -1, -1) ! 1
            copy(0, 0, -1, 0, 6, -1, -1) ! 2
            copy(0, 0, -1, 0, -1, -1, -1) ! 2
            copy(0, 0, -1, 0, 1, -1, -1) ! 1
            floats(0, 1, 4) = 4
            shorts(0, 2, 4) = 4
            codes(0, 3) = 0
            k from 1 to 3: copy(0, 0, -1, 0, k, -1, -1) ! 3
            k from 1 to 3: copy(0, k, 0, 0, 0, 0, 0) ! 3     # even for none
            copy(0, 2, 0, 0, 3, 0, 0) ! 3
            copy(0, 3, 0, 0, 2, 0, 0) ! 3
            doubles(0, 4, 3) = 3
            copy(0, 0, 0, 0, 4, 0, -1) ! 2
            copy(0, 0, 0, 0, 4, 0, -2147483648) ! 2
            copy(0, 0, -1, 0, 4, 0, 1) ! 2
            copy(0, 0, 0, 0, 4, -1, 1) ! 2
            copy(0, 0, 4, 0, 4, 0, 1) ! 2
            copy(0, 0, 0, 0, 4, 3, 1) ! 2
            copy(0, 0, 2, 0, 4, 0, 3) ! 2
            copy(0, 0, 0, 0, 4, 1, 3) ! 2
            copy(0, 0, 0, 0, 4, 0, 4) ! 2
            copy(0, 4, 0, 0, 0, 0, 4) ! 2
            copy(0, 0, 0, 0, 4, 0, 2147483647) ! 2
            copy(0, 0, 2147483647, 0, 4, 0, 1) ! 2
            copy(0, 0, 0, 0, 4, 2147483647, 1) ! 2
            copy(0, 0, 2147483647, 0, 4, 2147483647, 2147483647) ! 2
            copy(0, 0, 1, 0, 4, 0, 3) = 3
            copy(0, 3, 0, 0, 3, 0, 0) = 0
            copy(0, 3, 0, 0, 3, 0, 1) ! 2
            """);
    }

    private static void splice() {
        Sentence.test("Promise 16", "LOGS of SLOTS from, from + 1, .. come, one by one, into SLOTS to, to + 1, .. of another HOLE"
                + " (or the same), n of them: n.", """
            hole(0, 0) = 0
            hole(1, 0) = 1
            k from 0 to 5: shorts(0, k, k) = k
            start(0, 5, 7, 8) = 1
            splice(0, 0, 1, 0, 6) = 6              # all
            copied() = 6
            k from 0 to 5: length(1, k) = k
            put(0, 5, 0, 9, 0) = 9
            value(1, 5, 0) = 0                     # LOGS of its own from now on
            put(1, 5, 1, 9, 0) = 9
            value(0, 5, 1) = 0
            layer(4) = 0
            pick(0, 1, 5) = 15                     # START and STEP have come, too
            splice(0, 5, 1, 0, 1) = 1              # the last SLOT to the first
            length(1, 0) = 5
            splice(1, 1, 0, 5, 1) = 1              # and into the last one
            length(0, 5) = 1
            splice(0, 0, 0, 1, 5) = 5              # the same HOLE: what came is read again
            k from 0 to 5: length(0, k) = 0
            undo() = 1
            splice(0, 1, 0, 0, 5) = 5
            length(0, 0) = 1
            length(0, 3) = 4
            length(0, 4) = 1
            length(0, 5) = 1
            splice(0, 0, 0, 0, 6) = 6
            length(0, 3) = 4
            splice(0, 0, 1, 0, 0) = 0
            copied() = 0
            length(1, 0) = 5
            """);
        Sentence.test("Promise 16", "6: n is not 0 to 6; 2, 1 of h, then of h2.", """
            splice(24, 6, 24, 6, -1) ! 6
            splice(24, 6, 24, 6, 7) ! 6
            splice(24, 6, 24, 6, -2147483648) ! 6
            splice(24, 6, 24, 6, 2147483647) ! 6
            splice(24, 6, 24, 6, 6) ! 2
            splice(-1, 6, 24, 6, 0) ! 2
            splice(0, 6, 24, 6, 0) ! 1
            hole(0, 0) = 0
            splice(0, 6, 24, 6, 0) ! 2
            splice(0, 6, -1, 6, 6) ! 2
            splice(0, 6, 1, 6, 6) ! 1
            splice(0, 6, 0, 6, 0) = 0              # none of the SLOTS is asked for
            splice(0, 6, 0, 6, 1) ! 2
            """);
        Sentence.test("Promise 16", "It stops at the first that can't be: 2 (either SLOT), 1 (the first lacks)", """
            hole(0, 0) = 0
            hole(1, 0) = 1
            shorts(0, 5, 1) = 1
            splice(0, 6, 1, 0, 1) ! 2
            splice(0, -1, 1, 0, 1) ! 2
            splice(0, 5, 1, 6, 1) ! 2
            splice(0, 5, 1, -1, 1) ! 2
            splice(0, 4, 1, 0, 1) ! 1
            splice(0, 4, 1, 6, 1) ! 2              # both: 2 is told first
            splice(0, 4, 1, -1, 1) ! 2
            splice(0, 2147483647, 1, 0, 6) ! 2
            splice(0, -2147483648, 1, 0, 6) ! 2
            splice(0, 5, 1, 2147483647, 6) ! 2
            splice(0, 5, 1, -2147483648, 6) ! 2
            copied() = 0
            splice(0, 5, 1, 0, 2) ! 2              # the second one: beyond
            copied() = 1
            splice(1, 0, 0, 4, 2) ! 1              # the second one: it lacks
            copied() = 1
            splice(0, 4, 1, 5, 2) ! 2
            copied() = 1
            splice(0, 4, 1, 4, 2) = 2
            copied() = 2
            """);
        Sentence.test("Promise 16", "; those ahead have come then (undo() takes them back).", """
            hole(0, 0) = 0
            hole(1, 0) = 1
            shorts(0, 0, 1) = 1
            shorts(0, 1, 2) = 2
            shorts(1, 0, 9) = 9
            splice(0, 0, 1, 0, 3) ! 1
            length(1, 0) = 1
            length(1, 1) = 2
            kind(1, 2) = 0
            undo() = 1
            length(1, 0) = 9
            kind(1, 1) = 0
            splice(0, 0, 1, 5, 2) ! 2
            length(1, 5) = 1
            undo() = 1
            kind(1, 5) = 0
            splice(0, 0, 0, 1, 6) ! 2              # in the same HOLE, to its end
            k from 0 to 5: length(0, k) = 1
            copied() = 5
            undo() = 1
            length(0, 1) = 2
            kind(0, 2) = 0
            undo() = 1
            kind(1, 0) = 0                         # of shorts() then
            """);
        Sentence.test("Promise 16", "copied() tells how many.", """
            hole(0, 0) = 0
            k from 0 to 2: shorts(0, k, 1) = 1
            splice(0, 0, 0, 3, 3) = 3
            copied() = 3
            splice(0, 0, 0, 4, 3) ! 2
            copied() = 2
            splice(0, 0, 0, 6, 3) ! 2
            copied() = 0
            """);
    }
}
