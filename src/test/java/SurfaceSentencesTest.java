/** Sentences of 4 MATCHING and 5 SURFACES. */
public final class SurfaceSentencesTest {
    /** Two rows of HOLES about a middle one: 42 TRIANGLES would fit, (0, k, k + 1) and (1, k, k + 1). */
    private static final String ALL_HOLES = """
            hole(-1000, 0) = 0
            hole(1000, 0) = 1
            k from 2 to 23: hole(0, k) = k
            """;

    public static void main(String[] args) {
        rows();
        costs();
        choices();
        trees();
        triangles();
        broken();
        heights();
        volumes();
        Sentence.finishParts("4 MATCHING", "5 SURFACES");
    }

    private static void rows() {
        Sentence.test("4 MATCHING", "MATCHING of two LOGS of codes, of 100 VALUES at most each (6)", """
            hole(0, 0) = 0
            5 * feed(0, 0, 0, 0, 0)
            codes(0, 0) = 100
            6 * feed(0, 0, 0, 0, 0)
            end(101) = 101
            codes(0, 1) = 101
            15 * feed(0, 0, 0, 0, 0)
            codes(0, 2) = 300
            codes(0, 3) = 0
            match(0, 0, 0, 0) = 0
            match(0, 1, 0, 3) ! 6
            match(0, 3, 0, 1) ! 6
            match(0, 0, 0, 1) ! 6
            match(0, 1, 0, 0) ! 6
            match(0, 2, 0, 2) ! 6
            rows() = 100                           # of the one that was done
            match(0, 0, 0, 3) = 101
            match(0, 3, 0, 0) = 101
            match(0, 3, 0, 3) = 0
            shorts(0, 4, 1) = 1
            match(0, 4, 0, 0) ! 3
            match(0, 0, 0, 4) ! 3
            """);
        String all = "ROWS, one behind the other: a PAIR of the next of both, or the next of the first, or of the other one,"
                + " LEFT OUT; all are in them.";
        Sentence.test("4 MATCHING", all, """
            hole(0, 0) = 0
            feed(16909060, 0, 0, 0, 0) = 20
            end(4) = 4
            codes(0, 0) = 4                        # 1 2 3 4
            feed(16974595, 67108864, 0, 0, 0) = 20
            end(5) = 5
            codes(0, 1) = 5                        # 1 3 3 3 4
            codes(0, 2) = 0
            match(0, 0, 0, 1) = 4
            rows() = 5
            row(0) = 1001
            row(1) = 2002
            row(2) = 3
            row(3) = 3004
            row(4) = 4005
            match(0, 0, 0, 2) = 8
            rows() = 4
            row(0) = 1000
            row(1) = 2000
            row(2) = 3000
            row(3) = 4000
            match(0, 2, 0, 0) = 8
            rows() = 4
            k from 0 to 3: row(k) = k+1
            match(0, 2, 0, 2) = 0
            rows() = 0
            row(0) ! 2
            """);
        Sentence.test("4 MATCHING", all, """
            hole(0, 0) = 0
            5 * feed(0, 0, 0, 0, 0)
            codes(0, 0) = 100
            5 * feed(-1, -1, -1, -1, -1)
            codes(0, 1) = 100
            costs(100, 0, 0) = 1
            match(0, 0, 0, 1) = 0                  # all LEFT OUT: as many ROWS as there can be
            rows() = 200
            row(0) = 1
            row(99) = 100
            row(100) = 1000
            row(199) = 100000
            row(200) ! 2
            costs(100, 100, 100) = 1
            check() = 20000
            match(0, 0, 0, 1) = 10000              # all in PAIRS
            rows() = 100
            row(0) = 1001
            row(98) = 99099
            row(99) = 100100
            """);
    }

    private static void costs() {
        Sentence.test("4 MATCHING", "A PAIR of like codes costs nothing, of others UNLIKE", """
            hole(0, 0) = 0
            feed(0, 0, 0, 0, 0) = 20
            end(1) = 1
            codes(0, 0) = 1
            feed(-1, 0, 0, 0, 0) = 20
            end(1) = 1
            codes(0, 1) = 1                        # 255
            costs(100, 100, 100) = 1
            match(0, 0, 0, 0) = 0
            match(0, 0, 0, 1) = 100
            put(0, 0, 0, -1, 0) = 65535
            match(0, 0, 0, 1) = 100                # 65535 is not like 255
            put(0, 1, 0, 65535, 0) = 65535
            match(0, 0, 0, 1) = 0
            put(0, 1, 0, 65534, 0) = 65534
            match(0, 0, 0, 1) = 100
            costs(0, 100, 100) = 1
            match(0, 0, 0, 1) = 0
            """);
        Sentence.test("4 MATCHING", "; one LEFT OUT costs STRETCHED if the VALUE ahead of it in its LOG is like it, else OUT", """
            hole(0, 0) = 0
            codes(0, 0) = 0
            feed(0, 0, 0, 0, 0) = 20
            end(1) = 1
            codes(0, 1) = 1
            costs(100, 1, 10) = 1
            match(0, 1, 0, 0) = 10                 # the first has none ahead of it, were it 0, too
            match(0, 0, 0, 1) = 10
            feed(0, 257, 16777216, 0, 0) = 20
            end(12) = 12
            codes(0, 2) = 12                       # 0 0 0 0 0 0 1 1 1 0 0 0
            match(0, 2, 0, 0) = 39                 # 3 times OUT
            match(0, 0, 0, 2) = 39
            match(0, 2, 0, 1) = 29                 # the PAIR, too, is ahead of one
            """);
        Sentence.test("4 MATCHING", "(each 0 to 100; at first 3, 1, 2 in this order)", """
            digest of 0 | 0 | 3 1 2 | 1 1 0 | 0 0 0 0 0 | 0
            hole(0, 0) = 0
            feed(16909060, 0, 0, 0, 0) = 20
            end(1) = 1
            codes(0, 0) = 1                        # 1
            feed(33685760, 0, 0, 0, 0) = 20
            end(1) = 1
            codes(0, 1) = 1                        # 2
            feed(16843008, 0, 0, 0, 0) = 20
            end(3) = 3
            codes(0, 2) = 3                        # 1 1 1
            codes(0, 3) = 0
            match(0, 0, 0, 1) = 3
            match(0, 2, 0, 3) = 4
            match(0, 0, 0, 3) = 2
            costs(-1, 0, 0) ! 6
            costs(0, -1, 0) ! 6
            costs(0, 0, -1) ! 6
            costs(101, 0, 0) ! 6
            costs(0, 101, 0) ! 6
            costs(0, 0, 101) ! 6
            check() = 2
            costs(100, 100, 100) = 1
            check() = 100
            costs(0, 0, 0) = 1
            check() = 0
            """);
    }

    private static void choices() {
        Sentence.test("4 MATCHING", "The MATCH is one of least COST: of several the one whose last ROW is a PAIR, else one of"
                + " the first LEFT OUT, else one of the other", """
            hole(0, 0) = 0
            feed(16777216, 0, 0, 0, 0) = 20
            end(1) = 1
            codes(0, 0) = 1                        # 1
            feed(33554432, 0, 0, 0, 0) = 20
            end(1) = 1
            codes(0, 1) = 1                        # 2
            costs(4, 2, 2) = 1
            match(0, 0, 0, 1) = 4
            rows() = 1                             # the PAIR costs as much
            row(0) = 1001
            costs(5, 2, 2) = 1
            match(0, 0, 0, 1) = 4                  # else the first's one is last
            rows() = 2
            row(0) = 1
            row(1) = 1000
            feed(16777216, 0, 0, 0, 0) = 20
            end(2) = 2
            codes(0, 2) = 2                        # 1 0
            match(0, 0, 0, 2) = 2                  # else the other's
            rows() = 2
            row(0) = 1001
            row(1) = 2
            """);
        Sentence.test("4 MATCHING", "; then by the ROW ahead of it likewise, and so on.", """
            hole(0, 0) = 0
            feed(0, 0, 0, 0, 0) = 20
            end(3) = 3
            codes(0, 0) = 3                        # 0 0 0
            feed(0, 0, 0, 0, 0) = 20
            end(1) = 1
            codes(0, 1) = 1                        # 0
            costs(3, 2, 2) = 1
            match(0, 0, 0, 1) = 4
            row(0) = 1000
            row(1) = 2000
            row(2) = 3001                          # the PAIR last
            feed(16777216, 0, 0, 0, 0) = 20
            end(1) = 1
            codes(0, 2) = 1                        # 1
            feed(33751040, 0, 0, 0, 0) = 20
            end(3) = 3
            codes(0, 3) = 3                        # 2 3 0
            costs(100, 2, 2) = 1
            match(0, 2, 0, 3) = 8
            row(3) = 1000                          # then one of the other, as the first has no more
            row(2) = 3
            row(1) = 2
            row(0) = 1
            costs(2, 2, 2) = 1
            match(0, 2, 0, 3) = 6
            rows() = 3
            row(2) = 1003
            row(1) = 2
            row(0) = 1
            match(0, 0, 0, 3) = 4                  # 0 0 0 and 2 3 0
            row(2) = 3003
            row(1) = 2002
            row(0) = 1001
            """);
    }

    private static void trees() {
        Sentence.test("4 MATCHING", "A TREE by a SLOT joins all HOLES that have a LOG of codes there: at first the one of the"
                + " least number", """
            tree(0) = 0                            # no HOLE at all
            edge(0) ! 2
            k from 0 to 23: hole(k, 0) = k
            tree(0) = 0                            # none that has one
            codes(23, 0) = 0
            tree(0) = 1                            # one alone, and a LOG without VALUES
            edge(0) ! 2
            shorts(0, 0, 1) = 1
            doubles(1, 0, 1) = 1
            floats(2, 0, 1) = 1
            codes(3, 1) = 0
            tree(0) = 1                            # other KINDS, other SLOTS
            codes(22, 0) = 0
            tree(0) = 2
            edge(0) = 2322
            edge(1) ! 2
            k from 0 to 21: codes(k, 0) = 0
            tree(0) = 24
            """ + chain() + """
            edge(23) ! 2
            tree(5) = 0
            """);
        String next = "; then, again and again, of those not joined the one nearest to a joined one (of several the least number)";
        Sentence.test("4 MATCHING", next, """
            hole(0, 0) = 0
            hole(1000, 1000) = 1
            hole(-1000, -1000) = 2
            hole(3, 4) = 3                         # 5 from HOLE 0
            hole(5, 0) = 4                         # and so is this
            hole(0, -6) = 5
            k from 0 to 5: codes(k, 2) = 0
            tree(2) = 6
            edge(0) = 300
            edge(1) = 403                          # 4 is nearer to 3 than to 0
            edge(2) = 500
            edge(3) = 103                          # 997, 996 from 3
            edge(4) = 205                          # 1000, 994 from 5
            """);
        Sentence.test("4 MATCHING", next, """
            hole(-1000, -1000) = 0
            hole(1000, 1000) = 1
            hole(1000, -1000) = 2
            k from 0 to 2: codes(k, 0) = 0
            tree(0) = 3                            # as far as HOLES can be
            edge(0) = 200
            edge(1) = 102
            """);
        Sentence.test("4 MATCHING", next, """
            hole(5, 0) = 0
            hole(0, 0) = 1
            hole(9, 0) = 2
            k from 0 to 2: codes(k, 0) = 0
            tree(0) = 3
            edge(0) = 200
            edge(1) = 100
            lack(0, 0) = 1
            tree(0) = 2
            edge(0) = 201                          # what was joined by the one ahead of it does not count
            """);
        Sentence.test("4 MATCHING", ", by an EDGE from the nearest joined one (of several the least number).", """
            hole(0, 0) = 0
            hole(4, 0) = 1
            hole(0, 4) = 2
            hole(4, 4) = 3
            hole(2, 9) = 4
            k from 0 to 4: codes(k, 0) = 0
            tree(0) = 5
            edge(0) = 100
            edge(1) = 200
            edge(2) = 301                          # 1 and 2 are as near
            edge(3) = 402                          # 2 and 3 are as near
            """);
    }

    /** EDGES of HOLES in a row: each from the one ahead of it. */
    private static String chain() {
        StringBuilder rows = new StringBuilder();
        for (int k = 0; k < 23; k++) {
            rows.append("edge(" + k + ") = " + (100 * (k + 1) + k) + "\n");
        }
        return rows.toString();
    }

    private static void triangles() {
        Sentence.test("5 SURFACES", "SURFACES. A TRIANGLE (0 to 39 as they are made)", ALL_HOLES + """
            isBroken(-1) ! 2
            isBroken(40) ! 2
            k from 0 to 39: isBroken(k) ! 1
            k from 2 to 22: triangle(0, k, k+1) = k-2
            k from 2 to 19: triangle(1, k, k+1) = k+19
            isBroken(39) ! 1
            triangle(1, 20, 21) = 39
            triangles() = 40
            triangle(1, 21, 22) ! 6                # it would fit, but for the room
            triangles() = 40
            isBroken(39) = 0
            isBroken(40) ! 2
            isBroken(-1) ! 2
            undo() = 1
            isBroken(39) ! 1
            triangle(1, 22, 23) = 39
            """);
        Sentence.test("5 SURFACES", "has three HOLES that are not on one line", """
            hole(-1000, -1000) = 0
            hole(1000, 1000) = 1
            hole(0, 0) = 2
            hole(0, 1) = 3
            hole(0, -1000) = 4
            hole(1000, 0) = 5
            hole(-1000, 0) = 6
            hole(999, 1000) = 7
            triangle(0, 1, 2) ! 6
            triangle(2, 0, 1) ! 6
            triangle(2, 3, 4) ! 6                  # upright
            triangle(2, 5, 6) ! 6                  # level
            triangle(0, 0, 1) ! 6                  # one HOLE twice
            triangle(0, 1, 0) ! 6
            triangle(1, 0, 0) ! 6
            triangle(3, 3, 3) ! 6
            triangles() = 0
            triangle(0, 7, 1) = 0                  # as narrow as it gets
            triangle(0, 1, 5) = 1
            """);
        Sentence.test("5 SURFACES", "; no two have points inside both.", """
            hole(0, 0) = 0
            hole(12, 0) = 1
            hole(0, 12) = 2
            hole(12, 12) = 3
            hole(4, 4) = 4
            hole(6, 6) = 5
            hole(0, -12) = 6
            hole(24, -12) = 7
            hole(-12, 24) = 8
            hole(-1, 6) = 9
            hole(6, -1) = 10
            hole(20, 20) = 11
            hole(7, 7) = 12
            hole(20, 8) = 13
            hole(8, 20) = 14
            triangle(0, 1, 2) = 0
            triangle(12, 13, 14) = 1               # an edge of the first alone lies between them
            undo() = 1
            undo() = 1
            triangle(12, 13, 14) = 0
            triangle(0, 1, 2) = 1                  # and the other way about
            undo() = 1
            undo() = 1
            triangle(0, 1, 2) = 0
            triangle(1, 2, 0) ! 6                  # the same one
            triangle(2, 1, 0) ! 6
            triangle(0, 4, 1) ! 6                  # a part of it
            triangle(6, 7, 8) ! 6                  # it is a part of this
            triangle(9, 10, 11) ! 6                # neither has a corner of the other inside
            triangle(0, 1, 3) ! 6                  # on one edge, to the same side
            triangle(4, 3, 1) ! 6                  # a corner inside
            triangles() = 1
            triangle(1, 2, 3) = 1                  # an edge is shared
            triangle(0, 6, 10) = 2                 # a corner is shared
            triangle(7, 1, 10) = 3
            triangle(9, 2, 8) = 4                  # on one line with an edge, beyond it
            triangle(5, 3, 1) ! 6                  # 5 lies on the edge of 0 and 1, and this is in 1
            undo() = 1
            undo() = 1
            undo() = 1
            undo() = 1
            triangle(5, 3, 1) = 1                  # a corner on an edge
            triangle(5, 2, 3) = 2
            """);
    }

    private static void broken() {
        Sentence.test("5 SURFACES", "It is BROKEN, if two of its HOLES are on SIDES 1 and -1 of one FAULT.", """
            hole(0, 0) = 0
            hole(10, 0) = 1
            hole(0, 10) = 2
            triangle(0, 1, 2) = 0
            isBroken(0) = 0
            k from 0 to 13: layer(0) = k
            layer(2) = 14
            layer(3) = 15
            isBroken(0) = 0                        # LINES at first: SIDES 0
            line(14, 1, 0, 5) = 1
            isBroken(0) = 1                        # -1, 1, -1
            line(14, 0, 1, 9) = 1
            isBroken(0) = 1                        # -1, -1, 1
            line(14, -1, -1, -1) = 1
            isBroken(0) = 1                        # 1, -1, -1
            line(14, 1, 0, 0) = 1
            isBroken(0) = 0                        # 0, 1, 0
            line(14, -1, 0, 0) = 1
            isBroken(0) = 0                        # 0, -1, 0
            line(14, 1, -1, 0) = 1
            isBroken(0) = 1                        # 0, 1, -1
            line(14, 1, 0, 10) = 1
            isBroken(0) = 0                        # -1, 0, -1
            line(14, 0, 0, 1) = 1
            isBroken(0) = 0                        # all -1
            line(15, 0, 0, -1) = 1
            isBroken(0) = 0                        # all 1: not of one FAULT
            line(15, 1, 0, 9) = 1
            isBroken(0) = 1                        # the last LAYER, a Cut
            shift(15) = 0
            isBroken(0) = 1                        # SHIFTED or not
            """);
    }

    private static void heights() {
        Sentence.test("5 SURFACES", "A LAYER's HEIGHT at X, Y (-1000 to 1000) is that of the plane through its TOPS", """
            hole(-1000, -1000) = 0
            hole(1000, -1000) = 1
            hole(-1000, 1000) = 2
            hole(1000, 1000) = 3
            triangle(0, 1, 2) = 0
            triangle(3, 2, 1) = 1
            layer(2) = 0
            lay(0, 0, 0) = 0
            lay(0, 1, 10000000) = 10000000
            lay(0, 2, 10000000) = 10000000
            lay(0, 3, 0) = 0
            height(0, -1001, 0, 0) ! 6
            height(0, 1001, 0, 0) ! 6
            height(0, 0, -1001, 0) ! 6
            height(0, 0, 1001, 0) ! 6
            height(0, -2147483648, 0, 0) ! 6
            height(0, 0, 2147483647, 0) ! 6
            height(0, -1000, -1000, 0) = 0
            height(0, 1000, -1000, 0) = 10000000
            height(0, -1000, 1000, 0) = 10000000
            height(0, 1000, 1000, 0) = 0
            height(0, 0, -1000, 0) = 5000000
            height(0, 999, 999, 0) = 10000
            height(0, -999, -999, 0) = 10000
            """);
        Sentence.test("5 SURFACES", "at the HOLES of the first TRIANGLE that has the point (edges and corners, too)", """
            hole(0, 0) = 0
            hole(9, 0) = 1
            hole(0, 9) = 2
            hole(9, 9) = 3
            hole(5, 4) = 4
            hole(100, 100) = 5
            layer(4) = 0
            triangle(1, 3, 4) = 0                  # 4 lies on the edge of the next one
            triangle(0, 1, 2) = 1
            lay(0, 0, 90) = 90
            lay(0, 1, 0) = 0
            lay(0, 2, 0) = 0
            lay(0, 3, 0) = 0
            lay(0, 4, 1000) = 1000
            height(0, 5, 4, 0) = 1000              # the corner of the first, not the edge of the second
            height(0, 4, 5, 0) = 0                 # the edge of the second
            height(0, 3, 3, 0) = 30
            height(0, 0, 0, 0) = 90
            height(0, 9, 0, 0) = 0
            height(0, 0, 9, 0) = 0
            height(0, 0, 8, 0) = 10
            height(0, 7, 2, 0) = 500               # on the edges of both: of the first
            height(0, 6, 4, 0) = 750
            height(0, 0, 10, 0) ! 9
            height(0, 10, 0, 0) ! 9
            height(0, -1, 0, 0) ! 9
            height(0, 5, 5, 0) ! 9
            height(0, 4, 6, 0) ! 9
            """);
        Sentence.test("5 SURFACES", ": a fraction in lowest terms, its lower part above 0.", """
            hole(0, 0) = 0
            hole(6, 0) = 1
            hole(0, 6) = 2
            hole(-6, 0) = 3
            layer(4) = 0
            triangle(0, 2, 1) = 0                  # turns the other way
            triangle(0, 2, 3) = 1
            lay(0, 0, 0) = 0
            lay(0, 1, 1) = 1
            lay(0, 2, 4) = 4
            lay(0, 3, 9) = 9
            height(0, 0, 0, 0) = 0
            height(0, 0, 0, 1) = 1                 # 0 / 1
            height(0, 1, 0, 0) = 1
            height(0, 1, 0, 1) = 6
            height(0, 2, 0, 0) = 1
            height(0, 2, 0, 1) = 3
            height(0, 6, 0, 0) = 1
            height(0, 6, 0, 1) = 1
            height(0, 1, 1, 0) = 5
            height(0, 1, 1, 1) = 6
            height(0, -1, 0, 0) = 3
            height(0, -1, 0, 1) = 2
            layer(4) = 1
            lay(1, 0, 10) = 10
            lay(1, 1, 10) = 10
            lay(1, 2, 10) = 10
            thickness(1, 0, 1, 0, 0) = -59
            thickness(1, 0, 1, 0, 1) = 6           # what is below 0 is the upper part
            thickness(0, 0, 1, 0, 0) = 0
            thickness(0, 0, 1, 0, 1) = 1
            hole(6, 7) = 4
            hole(7, 7) = 5
            hole(6, 8) = 6
            triangle(4, 5, 6) = 2                  # the least TRIANGLE
            k from 4 to 6: lay(0, k, k) = k
            height(0, 7, 7, 0) = 5
            height(0, 7, 7, 1) = 1
            """);
        Sentence.test("5 SURFACES", "9: no TRIANGLE has it; 10: it is BROKEN; 9: a TOP is lacking.", """
            layer(2) = 0
            layer(4) = 1
            height(1, 0, 0, 0) ! 9                 # there is no TRIANGLE
            hole(0, 0) = 0
            hole(9, 0) = 1
            hole(0, 9) = 2
            hole(9, 9) = 3
            triangle(0, 1, 2) = 0
            triangle(1, 2, 3) = 1
            k from 1 to 3: lay(1, k, 5) = 5
            line(0, 1, 1, 8) = 1
            isBroken(0) = 1
            isBroken(1) = 0
            height(1, 10, 0, 0) ! 9
            height(1, 1, 1, 0) ! 10                # BROKEN, and a TOP is lacking
            height(1, 4, 5, 0) ! 10                # on the edge: the first is BROKEN, if the second is not
            height(1, 5, 5, 0) = 5
            line(0, 0, 0, 0) = 1
            height(1, 1, 1, 0) ! 9                 # of HOLE 0
            height(1, 9, 0, 0) ! 9                 # even where it counts for nothing
            height(1, 4, 5, 0) ! 9                 # the first lacks, if the second does not
            lay(1, 3, -1) = -1
            height(1, 5, 5, 0) ! 9
            lay(1, 3, 0) = 0
            height(1, 9, 9, 0) = 0                 # a TOP of 0 is one
            """);
        Sentence.test("5 SURFACES", "THICKNESS: the HEIGHT of one LAYER less that of another.", """
            hole(0, 0) = 0
            hole(7, 0) = 1
            hole(0, 7) = 2
            triangle(0, 1, 2) = 0
            layer(2) = 0
            layer(4) = 1
            lay(0, 0, 10000000) = 10000000
            lay(0, 1, 0) = 0
            lay(0, 2, 3) = 3
            lay(1, 0, 0) = 0
            lay(1, 1, 10000000) = 10000000
            lay(1, 2, 5) = 5
            thickness(0, 1, 0, 0, 0) = -10000000
            thickness(1, 0, 0, 0, 0) = 10000000
            thickness(0, 1, 1, 1, 0) = -39999998   # 10000005 less 50000003, by 7
            thickness(0, 1, 1, 1, 1) = 7
            thickness(1, 1, 1, 1, 0) = 0
            """);
    }

    private static void volumes() {
        String sixths = "The VOLUME between two LAYERS over a TRIANGLE is told in sixths: twice its area times the sum of the"
                + " differences of TOPS (of the second less the first) at its HOLES.";
        Sentence.test("5 SURFACES", sixths, """
            hole(-1000, -1000) = 0
            hole(1000, -1000) = 1
            hole(-1000, 1000) = 2
            hole(1000, 1000) = 3
            layer(2) = 0
            layer(3) = 1
            k from 0 to 3: lay(0, k, 0) = 0
            k from 0 to 3: lay(1, k, 10000000) = 10000000
            triangle(0, 1, 2) = 0
            volumeOf(0, 0, 1) = 120000000000000    # 4000000 * 30000000: beyond an int
            volumeOf(0, 1, 0) = -120000000000000
            volumeOf(0, 0, 0) = 0
            triangle(2, 1, 3) = 1
            volume(0, 1) = 240000000000000
            """);
        Sentence.test("5 SURFACES", sixths, """
            hole(0, 0) = 0
            hole(1, 0) = 1
            hole(0, 1) = 2
            layer(2) = 0
            layer(3) = 1
            k from 0 to 2: lay(0, k, 7) = 7
            k from 0 to 2: lay(1, k, 8) = 8
            triangle(2, 0, 1) = 0
            volumeOf(0, 0, 1) = 3                  # the least TRIANGLE
            lay(1, 1, 0) = 0
            volumeOf(0, 0, 1) = -5
            status() = 0
            lay(1, 1, 6) = 6
            volumeOf(0, 0, 1) = 1
            lay(1, 1, 4) = 4
            volumeOf(0, 0, 1) = -1                 # an answer, not a refusal
            undo() = 1
            triangle(1, 0, 2) ! 6
            undo() = 1
            undo() = 1
            undo() = 1
            triangle(1, 0, 2) = 0                  # turns the other way
            volumeOf(0, 0, 1) = 3
            """);
    }
}
