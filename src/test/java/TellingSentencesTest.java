/** Sentences of promises 28 to 55: what LOGS, LAYERS, MATCHES, TREES, TRIANGLES and the desk tell. */
public final class TellingSentencesTest {
    public static void main(String[] args) {
        kindAndLength();
        value();
        part();
        mean();
        copied();
        topAndFind();
        sides();
        tell();
        drift();
        match();
        check();
        tree();
        along();
        triangles();
        height();
        thickness();
        volumes();
        ran();
        status();
        digest();
        Sentence.finishPromises(28, 55);
    }

    private static void kindAndLength() {
        Sentence.test("Promise 28", "The KIND of what a SLOT holds, 0 if it lacks.", """
            hole(0, 0) = 0
            k from 0 to 5: kind(0, k) = 0
            doubles(0, 0, 0) = 0
            floats(0, 1, 0) = 0
            shorts(0, 2, 0) = 0
            codes(0, 5) = 0
            kind(0, 0) = 1
            kind(0, 1) = 2
            kind(0, 2) = 3
            kind(0, 3) = 0
            kind(0, 5) = 4
            lack(0, 5) = 1
            kind(0, 5) = 0
            """);
        Sentence.test("Promise 28", "2, 1, 2.", """
            kind(24, 6) ! 2
            kind(-1, 6) ! 2
            kind(23, 6) ! 1
            kind(0, -1) ! 1
            hole(0, 0) = 0
            kind(1, 6) ! 1
            kind(0, 6) ! 2
            kind(0, -1) ! 2
            kind(0, 5) = 0
            """);
        Sentence.test("Promise 29", "How many VALUES.", """
            hole(0, 0) = 0
            doubles(0, 0, 0) = 0
            length(0, 0) = 0
            floats(0, 0, 1) = 1
            length(0, 0) = 1
            shorts(0, 0, 300) = 300
            length(0, 0) = 300
            15 * feed(0, 0, 0, 0, 0)
            codes(0, 5) = 300
            length(0, 5) = 300
            """);
        Sentence.test("Promise 29", "2, 1, 2, 1.", """
            length(24, 6) ! 2
            length(-1, 6) ! 2
            length(23, 6) ! 1
            hole(0, 0) = 0
            length(0, 6) ! 2
            length(0, -1) ! 2
            length(0, 5) ! 1
            codes(0, 5) = 0
            length(0, 5) = 0
            """);
    }

    private static void value() {
        Sentence.test("Promise 30", "The WHOLE PART of VALUE i.", """
            hole(0, 0) = 0
            doubles(0, 0, 300) = 300
            put(0, 0, 0, -5, -1) = -2
            put(0, 0, 299, 5, -1) = 2
            value(0, 0, 0) = -2
            value(0, 0, 299) = 2
            put(0, 0, 0, -1, 0) = -1
            value(0, 0, 0) = -1                    # an answer, not a refusal
            status() = 0
            put(0, 0, 0, 1, 64) = 9223372036854775807
            value(0, 0, 0) = 9223372036854775807
            endless(0, 0, 0, true) = 1
            value(0, 0, 0) = -9223372036854775808
            shorts(0, 1, 1) = 1
            put(0, 1, 0, -32768, 0) = -32768
            value(0, 1, 0) = -32768
            feed(-1, 0, 0, 0, 0) = 20
            codes(0, 2) = 20
            value(0, 2, 0) = 255
            put(0, 2, 0, 65535, 0) = 65535
            value(0, 2, 0) = 65535
            """);
        Sentence.test("Promise 30", "2, 1, 2, 1; 2; 9: NONE.", """
            value(24, 6, -1) ! 2
            value(-1, 6, -1) ! 2
            value(0, 6, -1) ! 1
            hole(0, 0) = 0
            value(0, 6, -1) ! 2
            value(0, -1, -1) ! 2
            value(0, 0, -1) ! 1
            floats(0, 0, 2) = 2
            value(0, 0, -1) ! 2
            value(0, 0, 2) ! 2
            value(0, 0, 2147483647) ! 2
            value(0, 0, -2147483648) ! 2
            none(0, 0, 1) = 1
            value(0, 0, 1) ! 9
            value(0, 0, 2) ! 2
            value(0, 0, 0) = 0
            doubles(0, 1, 0) = 0
            value(0, 1, 0) ! 2
            """);
    }

    private static void part() {
        String parts = "VALUE v of doubles, or floats, by a NUMBER t (of floats as a float): which = 0 the WHOLE PART of v less r,"
                + " 1 that of r, r being what v leaves by t (the language's remainder).";
        Sentence.test("Promise 31", parts, """
            hole(0, 0) = 0
            doubles(0, 0, 1) = 1
            floats(0, 1, 1) = 1
            k from 0 to 1: put(0, k, 0, 17, 0) = 17
            k from 0 to 1: part(0, k, 0, 5, 0, 0) = 15
            k from 0 to 1: part(0, k, 0, 5, 0, 1) = 2
            k from 0 to 1: part(0, k, 0, -5, 0, 0) = 15     # r has the sign of v
            k from 0 to 1: part(0, k, 0, -5, 0, 1) = 2
            k from 0 to 1: put(0, k, 0, -17, 0) = -17
            k from 0 to 1: part(0, k, 0, 5, 0, 0) = -15
            k from 0 to 1: part(0, k, 0, 5, 0, 1) = -2
            k from 0 to 1: part(0, k, 0, -5, 0, 1) = -2
            k from 0 to 1: part(0, k, 0, 17, 0, 0) = -17    # t as great as v
            k from 0 to 1: part(0, k, 0, 17, 0, 1) = 0
            k from 0 to 1: part(0, k, 0, 18, 0, 0) = 0      # t greater than v
            k from 0 to 1: part(0, k, 0, 18, 0, 1) = -17
            k from 0 to 1: part(0, k, 0, 3, -1, 0) = -16    # -16.5 and -0.5
            k from 0 to 1: part(0, k, 0, 3, -1, 1) = 0
            k from 0 to 1: part(0, k, 0, 2147483647, 96, 1) = -17
            k from 0 to 1: put(0, k, 0, 3, -2) = 0
            k from 0 to 1: part(0, k, 0, 1, -1, 0) = 0      # 0.5 and 0.25
            k from 0 to 1: put(0, k, 0, -3, -2) = 0
            k from 0 to 1: part(0, k, 0, 1, -1, 0) = 0
            k from 0 to 1: put(0, k, 0, 0, 0) = 0
            k from 0 to 1: part(0, k, 0, 5, 0, 0) = 0
            k from 0 to 1: part(0, k, 0, 5, 0, 1) = 0
            """);
        Sentence.test("Promise 31", parts, """
            hole(0, 0) = 0
            doubles(0, 0, 1) = 1
            put(0, 0, 0, 2147483647, 200) = 9223372036854775807
            part(0, 0, 0, 1, -200, 1) = 0          # the greatest by the least
            part(0, 0, 0, 3, -200, 1) = 0
            part(0, 0, 0, 3, -200, 0) = 9223372036854775807
            part(0, 0, 0, 7, 0, 1) = 4             # 2^31 - 1 = 1 and 2^200 = 4, by 7
            put(0, 0, 0, 1, 62) = 4611686018427387904
            part(0, 0, 0, 2147483647, 0, 1) = 1    # 2^62 = (2^31)^2
            part(0, 0, 0, 2147483647, 0, 0) = 4611686018427387904
            put(0, 0, 0, 1, 52) = 4503599627370496
            part(0, 0, 0, 2147483647, 0, 1) = 2097152
            part(0, 0, 0, 2147483647, 0, 0) = 4503599625273344
            put(0, 0, 0, -1, -200) = 0
            part(0, 0, 0, 1, 200, 1) = 0
            part(0, 0, 0, 1, -200, 0) = 0
            """);
        Sentence.test("Promise 31", parts, """
            hole(0, 0) = 0
            floats(0, 0, 1) = 1
            put(0, 0, 0, 33554440, 0) = 33554440
            part(0, 0, 0, 16777217, 0, 1) = 8      # t is 16777216 as a float
            part(0, 0, 0, 16777217, 0, 0) = 33554432
            part(0, 0, 0, 7, 0, 1) = 3
            part(0, 0, 0, 7, 0, 0) = 33554436      # 33554437, as a float
            part(0, 0, 0, 1, 127, 1) = 33554440
            part(0, 0, 0, 1, 128, 1) = 33554440    # t is ENDLESS as a float
            part(0, 0, 0, -1, 200, 1) = 33554440
            part(0, 0, 0, 1, 128, 0) = 0
            part(0, 0, 0, 1, -149, 1) = 0          # the least float
            put(0, 0, 0, 16777215, 104) = 9223372036854775807
            part(0, 0, 0, 3, -150, 1) = 0          # the greatest by the least but one
            part(0, 0, 0, 7, 0, 1) = 0             # 2^24 - 1 = 0 by 7
            part(0, 0, 0, 11, 0, 1) = 9            # 2^24 - 1 = 4 and 2^104 = 5, by 11
            """);
        Sentence.test("Promise 31", "6: e, which; 2, 1, 2, 1; 3: shorts, codes; 2; 9: NONE, ENDLESS; 5: t is 0.", """
            part(24, 6, -1, 0, 201, 0) ! 6
            part(24, 6, -1, 0, -201, 0) ! 6
            part(24, 6, -1, 0, 0, 2) ! 6
            part(24, 6, -1, 0, 0, -1) ! 6
            part(24, 6, -1, 0, 0, 2147483647) ! 6
            part(24, 6, -1, 0, 0, -2147483648) ! 6
            part(24, 6, -1, 0, 200, 0) ! 2
            part(-1, 6, -1, 0, -200, 1) ! 2
            part(0, 6, -1, 0, 0, 0) ! 1
            hole(0, 0) = 0
            part(0, 6, -1, 0, 0, 0) ! 2
            part(0, -1, -1, 0, 0, 0) ! 2
            part(0, 0, -1, 0, 0, 0) ! 1
            shorts(0, 0, 1) = 1
            part(0, 0, -1, 0, 0, 0) ! 3
            feed(0, 0, 0, 0, 0) = 20
            codes(0, 1) = 20
            part(0, 1, 20, 0, 0, 0) ! 3
            doubles(0, 2, 4) = 4
            floats(0, 3, 4) = 4
            k from 2 to 3: part(0, k, -1, 0, 0, 0) ! 2
            k from 2 to 3: part(0, k, 4, 0, 0, 0) ! 2
            k from 2 to 3: none(0, k, 0) = 1
            k from 2 to 3: endless(0, k, 1, true) = 1
            k from 2 to 3: endless(0, k, 2, false) = 1
            k from 2 to 3: part(0, k, 0, 0, 0, 0) ! 9
            k from 2 to 3: part(0, k, 1, 0, 0, 1) ! 9
            k from 2 to 3: part(0, k, 2, 0, 0, 0) ! 9
            k from 2 to 3: part(0, k, 3, 0, 0, 0) ! 5
            k from 2 to 3: part(0, k, 3, 0, 200, 1) ! 5
            part(0, 3, 3, 1, -150, 0) ! 5          # 0 as a float
            part(0, 3, 3, -1, -150, 0) ! 5
            part(0, 3, 3, 1, -149, 0) = 0
            part(0, 2, 3, 1, -200, 0) = 0
            put(0, 3, 3, 1, 128) = 9223372036854775807
            part(0, 3, 3, 1, 0, 0) ! 9             # ENDLESS, as it was put
            """);
    }

    private static void mean() {
        Sentence.test("Promise 32", "The sum of the WHOLE PARTS of VALUES that are neither NONE nor ENDLESS (wrapping), by how"
                + " many they are, cut toward 0.", """
            hole(0, 0) = 0
            doubles(0, 0, 3) = 3
            fill(0, 0, 0, 3, 3, -1, 0) = 3         # 1.5 each: 1 each
            mean(0, 0) = 1
            put(0, 0, 0, 8, 0) = 8
            mean(0, 0) = 3                         # 10 by 3
            fill(0, 0, 0, 3, -3, -1, 0) = 3
            mean(0, 0) = -1
            status() = 0
            put(0, 0, 0, -8, 0) = -8
            mean(0, 0) = -3                        # -10 by 3
            put(0, 0, 0, 1, 0) = 1
            mean(0, 0) = 0                         # -1 by 3
            none(0, 0, 0) = 1
            mean(0, 0) = -1
            endless(0, 0, 1, false) = 1
            mean(0, 0) = -1
            put(0, 0, 2, 1, 63) = 9223372036854775807
            mean(0, 0) = 9223372036854775807
            put(0, 0, 1, 1, 200) = 9223372036854775807
            mean(0, 0) = -1                        # wraps to -2
            put(0, 0, 0, 1, 0) = 1
            mean(0, 0) = 0                         # -1 by 3
            put(0, 0, 0, 1, 64) = 9223372036854775807
            mean(0, 0) = 3074457345618258601       # wraps twice: 2^63 - 3
            fill(0, 0, 0, 3, -1, 63, 0) = 3
            mean(0, 0) = -3074457345618258602      # wraps to -2^63
            put(0, 0, 0, 0, 0) = 0
            mean(0, 0) = 0                         # wraps to 0
            shorts(0, 1, 300) = 300
            fill(0, 1, 0, 300, 32767, 0, 0) = 300
            mean(0, 1) = 32767                     # no sum of shorts
            feed(0, 0, 0, 0, 0) = 20
            codes(0, 2) = 20
            fill(0, 2, 0, 20, -1, 0, 0) = 20
            mean(0, 2) = 65535
            """);
        Sentence.test("Promise 32", "2, 1, 2, 1; 5: there are none.", """
            mean(24, 6) ! 2
            mean(-1, 6) ! 2
            mean(0, 6) ! 1
            hole(0, 0) = 0
            mean(0, 6) ! 2
            mean(0, -1) ! 2
            mean(0, 0) ! 1
            doubles(0, 0, 0) = 0
            mean(0, 0) ! 5
            shorts(0, 0, 0) = 0
            mean(0, 0) ! 5
            codes(0, 0) = 0
            mean(0, 0) ! 5
            floats(0, 0, 3) = 3
            none(0, 0, 0) = 1
            endless(0, 0, 1, true) = 1
            mean(0, 0) = 0                         # one is left
            put(0, 0, 2, 1, 200) = 9223372036854775807
            mean(0, 0) ! 5                         # ENDLESS, as it was put
            """);
    }

    private static void copied() {
        Sentence.test("Promise 33", "How many LOGS the latest splice() that was not refused with 6, nor for a HOLE, copied; 0 at first.", """
            copied() = 0
            hole(0, 0) = 0
            k from 0 to 2: shorts(0, k, 1) = 1
            splice(0, 0, 0, 3, 3) = 3
            copied() = 3
            splice(0, 0, 0, 3, 7) ! 6
            copied() = 3
            splice(0, 0, 0, 3, -1) ! 6
            copied() = 3
            splice(24, 0, 0, 3, 1) ! 2
            copied() = 3
            splice(1, 0, 0, 3, 1) ! 1
            copied() = 3
            splice(0, 0, 24, 3, 1) ! 2
            copied() = 3
            splice(0, 0, 1, 3, 1) ! 1
            copied() = 3
            splice(0, 0, 0, 5, 3) ! 2              # it stopped
            copied() = 1
            lack(0, 2) = 1
            splice(0, 0, 0, 3, 3) ! 1
            copied() = 2
            splice(0, 2, 0, 3, 3) ! 1              # at the first one
            copied() = 0
            splice(0, 0, 0, 0, 2) = 2
            undo() = 1
            copied() = 2                           # undo() leaves it
            splice(0, 9, 0, 9, 0) = 0
            copied() = 0
            """);
        Sentence.test("Promise 33", "Leaves STATUS as it is.", """
            copied() = 0
            end(1) ! 2
            copied() = 0
            status() = 2
            """);
    }

    private static void topAndFind() {
        Sentence.test("Promise 34", "A LAYER's TOP in a HOLE.", """
            k from 0 to 15: layer(2) = k
            k from 0 to 23: hole(k, 0) = k
            lay(15, 23, 10000000) = 10000000
            lay(0, 0, 0) = 0
            top(15, 23) = 10000000
            top(0, 0) = 0
            top(15, 22) ! 9
            top(14, 23) ! 9
            """);
        Sentence.test("Promise 34", "2, 1; 2, 1; 9.", """
            top(16, 24) ! 2
            top(-1, 24) ! 2
            top(15, 24) ! 1
            layer(0) = 0
            top(0, 24) ! 2
            top(0, -1) ! 2
            top(0, 23) ! 1
            hole(0, 0) = 0
            top(0, 0) ! 9
            lay(0, 0, 0) = 0
            top(0, 0) = 0
            lay(0, 0, -1) = -1
            top(0, 0) ! 9
            """);
        Sentence.test("Promise 35", "The HOLE with a LAYER's least TOP, of several the least number.", """
            layer(4) = 0
            k from 0 to 23: hole(k, 0) = k
            lay(0, 23, 10000000) = 10000000
            find(0) = 23
            lay(0, 22, 10000000) = 10000000
            find(0) = 22
            lay(0, 5, 9999999) = 9999999
            find(0) = 5
            lay(0, 9, 0) = 0
            find(0) = 9
            lay(0, 0, 1) = 1
            find(0) = 9
            lay(0, 0, 0) = 0
            find(0) = 0
            """);
        Sentence.test("Promise 35", "2, 1; 9.", """
            find(16) ! 2
            find(-1) ! 2
            find(15) ! 1
            layer(0) = 0
            find(0) ! 9                            # no HOLE
            hole(0, 0) = 0
            find(0) ! 9
            lay(0, 0, 0) = 0
            find(0) = 0
            lay(0, 0, -1) = -1
            find(0) ! 9
            """);
    }

    private static void sides() {
        Sentence.test("Promise 36", "The SIDE of a HOLE.", """
            layer(2) = 0
            layer(3) = 1
            hole(1000, 1000) = 0
            hole(-1000, -1000) = 1
            k from 0 to 1: side(0, k) = 0
            k from 0 to 1: line(k, 1000, 1000, 0) = 1
            k from 0 to 1: side(k, 0) = 1
            k from 0 to 1: side(k, 1) = -1
            status() = 0
            line(0, -1000, -1000, 2000000) = 1
            side(0, 1) = 0
            side(0, 0) = -1
            line(0, -1000, -1000, 1999999) = 1
            side(0, 1) = 1
            """);
        Sentence.test("Promise 36", "2, 1 of the LAYER; 3; 2, 1.", """
            side(16, 24) ! 2
            side(-1, 24) ! 2
            side(15, 24) ! 1
            layer(0) = 0
            layer(1) = 1
            layer(4) = 2
            layer(2) = 3
            k from 0 to 2: side(k, 24) ! 3
            side(3, 24) ! 2
            side(3, -1) ! 2
            side(3, 23) ! 1
            hole(0, 0) = 0
            side(3, 0) = 0
            k from 0 to 2: side(k, 0) ! 3
            """);
        Sentence.test("Promise 37", "Whether a FAULT is SHIFTED: 1 or 0.", """
            layer(2) = 0
            layer(3) = 1
            isShifted(0) = 0
            shift(0) = 0
            isShifted(0) = 1
            isShifted(1) = 0
            shift(1) = 0
            back(0) = 0
            isShifted(0) = 0
            isShifted(1) = 1
            undo() = 1
            isShifted(0) = 1
            """);
        Sentence.test("Promise 37", "2, 1; 3.", """
            isShifted(16) ! 2
            isShifted(-1) ! 2
            isShifted(15) ! 1
            layer(0) = 0
            layer(1) = 1
            layer(4) = 2
            k from 0 to 2: isShifted(k) ! 3
            isShifted(3) ! 1
            """);
    }

    private static void tell() {
        Sentence.test("Promise 38", "1000 times a LAYER's KIND, and in how many HOLES it has a TOP; of a Lens 500 more.", """
            k from 0 to 4: layer(k) = k
            tell(0) = 0
            tell(1) = 1500
            tell(2) = 2000
            tell(3) = 3000
            tell(4) = 4000
            k from 0 to 23: hole(k, 0) = k
            k from 0 to 23: lay(0, k, 0) = 0
            tell(0) = 24
            k from 0 to 23: lay(1, k, 9) = 9
            tell(1) = 1524
            lay(1, 23, -1) = -1
            tell(1) = 1523
            lay(4, 23, 9) = 9
            tell(4) = 4001
            lay(3, 0, 9) = 9
            tell(3) = 3001
            """);
        Sentence.test("Promise 38", "2, 1.", """
            tell(16) ! 2
            tell(-1) ! 2
            tell(15) ! 1
            tell(0) ! 1
            k from 0 to 15: layer(0) = k
            tell(15) = 0
            tell(16) ! 2
            """);
    }

    private static void drift() {
        Sentence.test("Promise 39", "Of two HOLES: the sum, over all LAYERS with a TOP in both, of WEIGHT times the second TOP less"
                + " the first.", """
            hole(0, 0) = 0
            hole(1, 0) = 1
            drift(0, 1) = 0                        # no LAYER
            k from 0 to 15: layer(4) = k
            drift(0, 1) = 0
            k from 0 to 15: lay(k, 0, 0) = 0
            drift(0, 1) = 0                        # in one of them alone
            lay(15, 1, 10000000) = 10000000
            drift(0, 1) = 50000000
            drift(1, 0) = -50000000
            k from 0 to 14: lay(k, 1, 10000000) = 10000000
            drift(0, 1) = 800000000                # the greatest
            drift(1, 0) = -800000000
            drift(0, 0) = 0
            drift(1, 1) = 0
            lay(0, 0, -1) = -1
            drift(0, 1) = 750000000
            """);
        Sentence.test("Promise 39", "2, 1; 2, 1.", """
            drift(24, 24) ! 2
            drift(-1, 24) ! 2
            drift(0, 24) ! 1
            hole(0, 0) = 0
            drift(0, 24) ! 2
            drift(0, -1) ! 2
            drift(0, 1) ! 1
            drift(1, 0) ! 1
            drift(0, 0) = 0
            """);
    }

    private static void match() {
        Sentence.test("Promise 40", "The MATCH of two LOGS of codes: its COST; its ROWS stay until the next one.", """
            hole(0, 0) = 0
            feed(16909060, 0, 0, 0, 0) = 20
            end(4) = 4
            codes(0, 0) = 4                        # 1 2 3 4
            feed(33686018, 0, 0, 0, 0) = 20
            end(2) = 2
            codes(0, 1) = 2                        # 2 2
            match(0, 0, 0, 0) = 0
            rows() = 4
            match(0, 0, 0, 1) = 7
            match(0, 9, 0, 1) ! 2                  # a refused one leaves them
            match(0, 0, 0, 5) ! 1
            rows() = 4
            row(0) = 1000
            lack(0, 0) = 1                         # what becomes of the LOGS, too
            undo() = 1
            undo() = 1
            undo() = 1
            rows() = 4
            row(3) = 4002
            """);
        Sentence.test("Promise 40", "2, 1, 2, 1; 3 of the first, likewise of the other; 6.", """
            match(24, 6, 24, 6) ! 2
            match(-1, 6, 24, 6) ! 2
            match(0, 6, 24, 6) ! 1
            hole(0, 0) = 0
            match(0, 6, 24, 6) ! 2
            match(0, -1, 24, 6) ! 2
            match(0, 0, 24, 6) ! 1
            doubles(0, 0, 101) = 101
            floats(0, 1, 101) = 101
            shorts(0, 2, 101) = 101
            k from 0 to 2: match(0, k, 24, 6) ! 3
            6 * feed(0, 0, 0, 0, 0)
            end(101) = 101
            codes(0, 3) = 101
            match(0, 3, 24, 6) ! 2
            match(0, 3, -1, 6) ! 2
            match(0, 3, 1, 6) ! 1
            match(0, 3, 0, 6) ! 2
            match(0, 3, 0, -1) ! 2
            match(0, 3, 0, 5) ! 1
            k from 0 to 2: match(0, 3, 0, k) ! 3
            match(0, 3, 0, 3) ! 6
            codes(0, 4) = 0
            match(0, 3, 0, 4) ! 6
            match(0, 4, 0, 3) ! 6
            rows() = 0
            check() ! 9                            # nothing was matched
            5 * feed(0, 0, 0, 0, 0)
            codes(0, 3) = 100
            match(0, 3, 0, 4) = 101
            match(0, 4, 0, 3) = 101
            match(0, 3, 0, 3) = 0
            """);
        Sentence.test("Promise 41", "How many ROWS; 0 at first.", """
            rows() = 0
            hole(0, 0) = 0
            5 * feed(0, 0, 0, 0, 0)
            codes(0, 0) = 100
            5 * feed(-1, -1, -1, -1, -1)
            codes(0, 1) = 100
            codes(0, 2) = 0
            match(0, 0, 0, 0) = 0
            rows() = 100
            costs(100, 1, 1) = 1
            match(0, 0, 0, 1) = 200
            rows() = 200
            match(0, 2, 0, 1) = 100
            rows() = 100
            match(0, 2, 0, 2) = 0
            rows() = 0
            """);
        Sentence.test("Promise 41", "Leaves STATUS as it is.", """
            row(0) ! 2
            rows() = 0
            status() = 2
            """);
        Sentence.test("Promise 42", "ROW k: 1000 times (1 and the place in the first), and (1 and the place in the other), 0 for what"
                + " is LEFT OUT.", """
            hole(0, 0) = 0
            5 * feed(0, 0, 0, 0, 0)
            codes(0, 0) = 100
            codes(0, 1) = 0
            match(0, 0, 0, 0) = 0
            row(0) = 1001
            row(99) = 100100
            match(0, 0, 0, 1) = 101
            row(0) = 1000
            row(99) = 100000
            match(0, 1, 0, 0) = 101
            row(0) = 1
            row(99) = 100
            """);
        Sentence.test("Promise 42", " 2.", """
            row(-1) ! 2
            row(0) ! 2
            hole(0, 0) = 0
            feed(0, 0, 0, 0, 0) = 20
            codes(0, 0) = 20
            codes(0, 1) = 0
            match(0, 0, 0, 0) = 0
            row(-1) ! 2
            row(20) ! 2
            row(2147483647) ! 2
            row(-2147483648) ! 2
            row(19) = 20020
            match(0, 1, 0, 1) = 0
            row(0) ! 2
            """);
    }

    private static void check() {
        Sentence.test("Promise 43", "The COSTS of ROWS added up, as UNLIKE, STRETCHED, OUT are now", """
            hole(0, 0) = 0
            feed(16908289, 0, 0, 0, 0) = 20
            end(3) = 3
            codes(0, 0) = 3                        # 1 2 0
            feed(50529027, 0, 0, 0, 0) = 20
            end(2) = 2
            codes(0, 1) = 2                        # 3 3
            costs(1, 50, 50) = 1
            match(0, 0, 0, 1) = 52
            check() = 52
            costs(100, 0, 0) = 1
            check() = 200                          # the ROWS are the same, if others would cost less
            costs(0, 0, 100) = 1
            check() = 100
            costs(0, 100, 0) = 1
            check() = 0
            costs(0, 0, 0) = 1
            check() = 0
            match(0, 1, 0, 0) = 0
            costs(0, 7, 30) = 1
            check() = 30
            undo() = 1
            check() = 0
            codes(0, 2) = 0
            match(0, 2, 0, 1) = 0                  # 3 3, of the other alone
            costs(0, 7, 30) = 1
            check() = 37
            match(0, 1, 0, 2) = 37                 # of the first alone
            costs(0, 30, 7) = 1
            check() = 37
            costs(0, 1, 7) = 1
            check() = 8
            """);
        Sentence.test("Promise 43", ", by the LOGS as they were matched.", """
            hole(0, 0) = 0
            feed(0, 0, 0, 0, 0) = 20
            end(3) = 3
            codes(0, 0) = 3
            codes(0, 1) = 0
            match(0, 0, 0, 1) = 4                  # OUT, then STRETCHED twice
            put(0, 0, 1, 9, 0) = 9
            check() = 4
            feed(0, 0, 0, 0, 0) = 20
            codes(0, 1) = 20
            check() = 4
            lack(0, 0) = 1
            check() = 4
            shorts(0, 0, 9) = 9
            check() = 4
            7 * undo()
            kind(0, 0) ! 1
            check() = 4
            costs(3, 5, 7) = 1
            check() = 17
            k from 0 to 1: hole(k, 0) = k
            codes(0, 0) = 0
            feed(16909060, 0, 0, 0, 0) = 20
            end(4) = 4
            codes(1, 0) = 4
            tree(0) = 2
            along() = 28
            check() = 17                           # other MATCHES in between change nothing
            """);
        Sentence.test("Promise 43", "9: nothing was matched.", """
            check() ! 9
            hole(0, 0) = 0
            codes(0, 0) = 0
            match(0, 0, 0, 1) ! 1
            check() ! 9
            tree(0) = 1
            along() = 0
            check() ! 9                            # along() matches nothing to be kept
            match(0, 0, 0, 0) = 0
            check() = 0
            """);
    }

    private static void tree() {
        Sentence.test("Promise 44", "The TREE by a SLOT: how many HOLES are joined.", """
            tree(0) = 0
            tree(5) = 0
            k from 0 to 23: hole(k, 0) = k
            tree(5) = 0
            k from 0 to 23: codes(k, 5) = 0
            tree(5) = 24
            tree(0) = 0
            lack(0, 5) = 1
            tree(5) = 23
            edge(0) = 201
            """);
        Sentence.test("Promise 44", " 2.", """
            hole(0, 0) = 0
            hole(1, 0) = 1
            k from 0 to 1: codes(k, 0) = 0
            tree(-1) ! 2
            along() ! 9                            # no tree() yet
            tree(0) = 2
            tree(-1) ! 2
            tree(6) ! 2
            tree(2147483647) ! 2
            tree(-2147483648) ! 2
            edge(0) = 100                          # the EDGES are as they were
            along() = 0
            """);
        Sentence.test("Promise 45", "EDGE k: 100 times the HOLE that it joined to the others, and the HOLE, joined ahead of it, from"
                + " which it comes.", """
            k from 0 to 23: hole(k, 0) = k
            codes(23, 0) = 0
            codes(0, 0) = 0
            tree(0) = 2
            edge(0) = 2300
            codes(22, 0) = 0
            edge(0) = 2300                         # until the next tree()
            tree(0) = 3
            edge(0) = 2200
            edge(1) = 2322
            """);
        Sentence.test("Promise 45", " 2.", """
            edge(0) ! 2
            edge(-1) ! 2
            k from 0 to 23: hole(k, 0) = k
            codes(0, 0) = 0
            tree(0) = 1
            edge(0) ! 2
            k from 1 to 23: codes(k, 0) = 0
            tree(0) = 24
            edge(-1) ! 2
            edge(22) = 2322
            edge(23) ! 2
            edge(2147483647) ! 2
            edge(-2147483648) ! 2
            tree(1) = 0
            edge(0) ! 2
            """);
    }

    private static void along() {
        Sentence.test("Promise 46", "The COSTS of the MATCHES of both HOLES of each EDGE, by the LOGS in the SLOT of the latest tree()"
                + " as they are now (first the HOLE that the EDGE joined to the others): their sum.", """
            hole(0, 0) = 0
            hole(1, 0) = 1
            hole(3, 0) = 2
            tree(0) = 0
            along() = 0                            # no EDGE
            k from 0 to 2: codes(k, 0) = 0
            tree(0) = 3
            along() = 0
            feed(0, 0, 0, 0, 0) = 20
            end(3) = 3
            codes(1, 0) = 3
            along() = 8                            # OUT, STRETCHED, STRETCHED on both EDGES
            costs(0, 0, 100) = 1
            along() = 200
            codes(0, 1) = 0
            tree(1) = 1
            along() = 0
            tree(6) ! 2
            along() = 0
            tree(0) = 3
            along() = 200
            hole(2, 0) = 3
            codes(3, 0) = 0
            along() = 200                          # EDGES are those of the latest tree()
            match(0, 0, 0, 0) = 0
            along() = 200
            rows() = 0                             # ROWS are not those of along()
            """);
        Sentence.test("Promise 46", "9: no tree() yet", """
            along() ! 9
            hole(0, 0) = 0
            codes(0, 0) = 0
            tree(6) ! 2
            along() ! 9
            tree(0) = 1
            along() = 0
            """);
        Sentence.test("Promise 46", "; for each EDGE 1: a SLOT lacks now, or its HOLE was taken back; 3; 6, of the first, likewise of"
                + " the other.", """
            hole(0, 0) = 0
            hole(1, 0) = 1
            hole(9, 0) = 2
            k from 0 to 2: codes(k, 0) = 0
            tree(0) = 3
            edge(0) = 100                          # first HOLE 1, then HOLE 0
            edge(1) = 201
            6 * feed(0, 0, 0, 0, 0)
            end(101) = 101
            codes(0, 0) = 101
            along() ! 6                            # of the other
            shorts(0, 0, 101) = 101
            along() ! 3
            lack(0, 0) = 1
            along() ! 1
            6 * feed(0, 0, 0, 0, 0)
            end(101) = 101
            codes(1, 0) = 101
            along() ! 6                            # of the first, ahead of 1 of the other
            doubles(1, 0, 0) = 0
            along() ! 3
            lack(1, 0) = 1
            shorts(0, 0, 1) = 1
            along() ! 1
            codes(1, 0) = 0
            lack(2, 0) = 1
            along() ! 3                            # EDGE 0 is ahead of EDGE 1
            codes(0, 0) = 0
            along() ! 1
            floats(2, 0, 0) = 0
            along() ! 3
            15 * feed(0, 0, 0, 0, 0)
            codes(2, 0) = 300
            along() ! 6
            5 * feed(0, 0, 0, 0, 0)
            codes(2, 0) = 100
            along() = 101
            """);
        Sentence.test("Promise 46", "; for each EDGE 1: a SLOT lacks now, or its HOLE was taken back; 3; 6, of the first, likewise of"
                + " the other.", """
            hole(0, 0) = 0
            codes(0, 0) = 0
            hole(1, 0) = 1
            codes(1, 0) = 0
            tree(0) = 2
            undo() = 1
            along() ! 1                            # the SLOT lacks
            undo() = 1
            along() ! 1                            # HOLE 1 was taken back
            undo() = 1
            undo() = 1
            along() ! 1
            hole(5, 5) = 0
            hole(6, 6) = 1
            k from 0 to 1: codes(k, 0) = 0
            along() = 0                            # HOLES of these numbers are there again
            """);
    }

    private static void triangles() {
        Sentence.test("Promise 47", "How many TRIANGLES.", """
            triangles() = 0
            hole(-1000, 0) = 0
            hole(1000, 0) = 1
            k from 2 to 23: hole(0, k) = k
            k from 2 to 22: triangle(0, k, k+1) = k-2
            triangles() = 21
            k from 2 to 20: triangle(1, k, k+1) = k+19
            triangles() = 40
            triangle(1, 21, 22) ! 6
            triangles() = 40
            undo() = 1
            triangles() = 39
            """);
        Sentence.test("Promise 47", "Leaves STATUS as it is.", """
            isBroken(40) ! 2
            triangles() = 0
            status() = 2
            """);
        Sentence.test("Promise 48", "Whether a TRIANGLE is BROKEN: 1 or 0.", """
            hole(0, 0) = 0
            hole(9, 0) = 1
            hole(0, 9) = 2
            hole(9, 9) = 3
            triangle(0, 1, 2) = 0
            triangle(1, 2, 3) = 1
            layer(3) = 0
            line(0, 1, 1, 8) = 1
            isBroken(0) = 1
            isBroken(1) = 0
            line(0, 1, 1, 9) = 1
            isBroken(0) = 0
            line(0, 1, 1, 10) = 1
            isBroken(0) = 0
            isBroken(1) = 1
            """);
        Sentence.test("Promise 48", "2, 1.", """
            isBroken(40) ! 2
            isBroken(-1) ! 2
            isBroken(39) ! 1
            isBroken(0) ! 1
            hole(0, 0) = 0
            hole(9, 0) = 1
            hole(0, 9) = 2
            triangle(0, 1, 2) = 0
            isBroken(0) = 0
            isBroken(1) ! 1
            undo() = 1
            isBroken(0) ! 1
            """);
    }

    private static void height() {
        Sentence.test("Promise 49", "A LAYER's HEIGHT: which = 0 its upper part, 1 its lower part.", """
            hole(-1000, -1000) = 0
            hole(1000, -999) = 1
            hole(-999, 1000) = 2
            triangle(2, 1, 0) = 0
            layer(0) = 0
            lay(0, 0, 9999999) = 9999999
            lay(0, 1, 10000000) = 10000000
            lay(0, 2, 1) = 1
            height(0, -999, -999, 0) = 19999998002 # 39979996005998 by 3999999, both by 1999
            height(0, -999, -999, 1) = 2001
            height(0, -1000, -1000, 0) = 9999999
            height(0, -1000, -1000, 1) = 1
            lay(0, 0, 0) = 0
            height(0, -1000, -1000, 0) = 0
            height(0, -1000, -1000, 1) = 1
            """);
        Sentence.test("Promise 49", "6: X, Y, which; 2, 1; 9; 10; 9.", """
            height(16, -1001, 0, 0) ! 6
            height(16, 1001, 0, 0) ! 6
            height(16, 0, -1001, 0) ! 6
            height(16, 0, 1001, 0) ! 6
            height(16, 0, 0, -1) ! 6
            height(16, 0, 0, 2) ! 6
            height(16, 0, 0, 2147483647) ! 6
            height(16, 0, 0, -2147483648) ! 6
            height(16, 0, 0, 0) ! 2
            height(-1, 0, 0, 1) ! 2
            height(15, 1000, 1000, 0) ! 1
            layer(0) = 0
            layer(2) = 1
            height(0, -1000, -1000, 0) ! 9         # no TRIANGLE has it
            hole(0, 0) = 0
            hole(9, 0) = 1
            hole(0, 9) = 2
            triangle(0, 1, 2) = 0
            line(1, 1, 0, 5) = 1
            height(0, 5, 5, 0) ! 9
            height(0, 0, 0, 0) ! 10
            line(1, 0, 0, 0) = 1
            height(0, 0, 0, 0) ! 9                 # no TOP at all
            k from 0 to 1: lay(0, k, 5) = 5
            height(0, 0, 0, 0) ! 9
            lay(0, 2, 5) = 5
            height(0, 0, 0, 0) = 5
            height(0, 0, 0, 1) = 1
            height(0, 0, 0, 2) ! 6
            """);
    }

    private static void thickness() {
        Sentence.test("Promise 50", "THICKNESS: HEIGHT of m less HEIGHT of l, in lowest terms, likewise.", """
            hole(0, 0) = 0
            hole(6, 0) = 1
            hole(0, 6) = 2
            triangle(0, 1, 2) = 0
            layer(0) = 0
            layer(4) = 1
            lay(0, 0, 1) = 1
            lay(0, 1, 2) = 2
            lay(0, 2, 9) = 9
            lay(1, 0, 4) = 4
            lay(1, 1, 7) = 7
            lay(1, 2, 9) = 9
            thickness(0, 1, 1, 0, 0) = 10          # 9/2 less 7/6
            thickness(0, 1, 1, 0, 1) = 3
            thickness(1, 0, 1, 0, 0) = -10
            thickness(1, 0, 1, 0, 1) = 3
            thickness(0, 1, 0, 6, 0) = 0
            thickness(0, 1, 0, 6, 1) = 1
            thickness(0, 0, 1, 0, 0) = 0
            thickness(0, 0, 1, 0, 1) = 1
            thickness(0, 1, 0, 0, 0) = 3
            thickness(0, 1, 0, 0, 1) = 1
            """);
        Sentence.test("Promise 50", "6; 2, 1 of l, 2, 1 of m; 9; 10; 9.", """
            thickness(16, 16, -1001, 0, 0) ! 6
            thickness(16, 16, 1001, 0, 0) ! 6
            thickness(16, 16, 0, -1001, 0) ! 6
            thickness(16, 16, 0, 1001, 0) ! 6
            thickness(16, 16, 0, 0, -1) ! 6
            thickness(16, 16, 0, 0, 2) ! 6
            thickness(16, 16, 0, 0, 0) ! 2
            thickness(-1, 16, 0, 0, 0) ! 2
            thickness(0, 16, 0, 0, 1) ! 1
            layer(0) = 0
            thickness(0, 16, 0, 0, 0) ! 2
            thickness(0, -1, 0, 0, 0) ! 2
            thickness(0, 15, 1000, 1000, 0) ! 1
            layer(4) = 1
            layer(2) = 2
            thickness(0, 1, -1000, -1000, 0) ! 9   # no TRIANGLE has it
            hole(0, 0) = 0
            hole(9, 0) = 1
            hole(0, 9) = 2
            triangle(0, 1, 2) = 0
            line(2, 1, 0, 5) = 1
            thickness(0, 1, 5, 5, 0) ! 9
            thickness(0, 1, 0, 0, 0) ! 10
            line(2, 0, 0, 0) = 1
            thickness(0, 1, 0, 0, 0) ! 9
            k from 0 to 2: lay(0, k, 5) = 5
            thickness(0, 1, 0, 0, 0) ! 9           # the second's
            thickness(1, 0, 0, 0, 0) ! 9           # the first's
            thickness(0, 0, 0, 0, 0) = 0
            k from 0 to 2: lay(1, k, 5) = 5
            thickness(0, 1, 0, 0, 0) = 0
            lay(0, 2, -1) = -1
            thickness(0, 1, 0, 0, 0) ! 9
            """);
    }

    private static void volumes() {
        Sentence.test("Promise 51", "The VOLUME between l and m over a TRIANGLE, in sixths.", """
            hole(-1000, -1000) = 0
            hole(1000, -1000) = 1
            hole(-1000, 1000) = 2
            hole(1000, 1000) = 3
            triangle(0, 2, 1) = 0
            triangle(1, 2, 3) = 1
            layer(2) = 0
            layer(3) = 1
            k from 0 to 3: lay(0, k, 0) = 0
            k from 0 to 3: lay(1, k, 10000000) = 10000000
            k from 0 to 1: volumeOf(k, 0, 1) = 120000000000000
            k from 0 to 1: volumeOf(k, 1, 0) = -120000000000000
            lay(1, 3, 0) = 0
            volumeOf(0, 0, 1) = 120000000000000
            volumeOf(1, 0, 1) = 80000000000000
            volumeOf(1, 1, 1) = 0
            """);
        Sentence.test("Promise 51", "2, 1 of l, 2, 1 of m; 2, 1 of the TRIANGLE; 10; 9.", """
            volumeOf(40, 16, 16) ! 2
            volumeOf(40, -1, 16) ! 2
            volumeOf(40, 0, 16) ! 1
            layer(0) = 0
            volumeOf(40, 0, 16) ! 2
            volumeOf(40, 0, -1) ! 2
            volumeOf(40, 0, 1) ! 1
            layer(4) = 1
            layer(3) = 2
            volumeOf(40, 0, 1) ! 2
            volumeOf(-1, 0, 1) ! 2
            volumeOf(39, 0, 1) ! 1
            volumeOf(0, 0, 1) ! 1
            hole(0, 0) = 0
            hole(9, 0) = 1
            hole(0, 9) = 2
            triangle(0, 1, 2) = 0
            line(2, 1, 0, 5) = 1
            volumeOf(0, 0, 1) ! 10
            line(2, 0, 0, 0) = 1
            volumeOf(0, 0, 1) ! 9
            k from 0 to 2: lay(0, k, 5) = 5
            volumeOf(0, 0, 1) ! 9
            volumeOf(0, 1, 0) ! 9
            k from 0 to 1: lay(1, k, 6) = 6
            volumeOf(0, 0, 1) ! 9
            lay(1, 2, 6) = 6
            volumeOf(0, 0, 1) = 243
            line(2, 1, 0, 5) = 1
            volumeOf(0, 0, 1) ! 10
            """);
        Sentence.test("Promise 52", "The sum of the VOLUMES over all TRIANGLES that are not BROKEN and have all six TOPS.", """
            layer(2) = 0
            layer(3) = 1
            volume(0, 1) = 0                       # no TRIANGLE
            hole(-1000, 0) = 0
            hole(1000, 0) = 1
            k from 2 to 23: hole(0, k) = k
            k from 2 to 22: triangle(0, k, k+1) = k-2
            k from 2 to 20: triangle(1, k, k+1) = k+19
            volume(0, 1) = 0                       # no TOPS
            k from 0 to 23: lay(0, k, 1) = 1
            volume(0, 1) = 0
            k from 0 to 23: lay(1, k, 2) = 2
            volume(0, 1) = 120000                  # 40 times 1000 * 3
            volume(1, 0) = -120000
            volume(0, 0) = 0
            lay(1, 23, -1) = -1
            volume(0, 1) = 117000                  # one has not all six
            lay(0, 0, -1) = -1
            volume(0, 1) = 57000                   # 21 have not
            lay(0, 0, 1) = 1
            lay(1, 23, 2) = 2
            layer(2) = 2
            line(2, 1, 0, -500) = 1
            volume(0, 1) = 57000                   # 21 are BROKEN
            line(2, 1, 0, -1000) = 1
            volume(0, 1) = 120000
            line(2, 0, 1, 1) = 1
            volume(0, 1) = 0                       # all are
            """);
        Sentence.test("Promise 52", "2, 1; 2, 1.", """
            volume(16, 16) ! 2
            volume(-1, 16) ! 2
            volume(0, 16) ! 1
            layer(0) = 0
            volume(0, 16) ! 2
            volume(0, -1) ! 2
            volume(0, 15) ! 1
            volume(1, 0) ! 1
            volume(0, 0) = 0
            """);
    }

    private static void ran() {
        Sentence.test("Promise 53", "How often a PLACE was looked for so far, of a KIND of LAYER 0 to 4", """
            k from 0 to 4: layer(k) = k
            hole(0, 0) = 0
            shorts(0, 0, 0) = 0
            k from 0 to 4: ran(k) = 0
            k from 0 to 4: pick(k, 0, 0) ! 9
            k from 0 to 4: ran(k) = 1              # there is none: it was looked for
            pick(0, 0, 1) ! 1
            pick(0, 1, 0) ! 1
            pick(5, 0, 0) ! 1
            pick(0, 0, 6) ! 2
            shift(2) = 0
            pick(2, 0, 0) ! 10
            k from 0 to 4: ran(k) = 1              # not looked for
            shorts(0, 0, 2) = 2
            start(0, 0, 10000000, 10000) = 1
            pick(3, 0, 0) ! 6                      # above 10000000
            ran(3) = 2
            lay(1, 0, 10000000) = 10000000
            start(0, 0, 0, 1) = 1
            pick(4, 0, 0) ! 7
            ran(4) = 2
            lay(1, 0, -1) = -1
            pick(4, 0, 0) = 0
            ran(4) = 3
            undo() = 1
            ran(4) = 3
            layer(4) = 5
            pick(5, 0, 0) = 0
            ran(4) = 4                             # of the KIND, not of the LAYER
            lay(0, 0, 0) = 0
            ran(0) = 1
            """);
        Sentence.test("Promise 53", "; 0 for others. Leaves STATUS as it is.", """
            layer(4) = 0
            hole(0, 0) = 0
            shorts(0, 0, 1) = 1
            pick(0, 0, 0) = 0
            end(1) ! 2
            ran(-1) = 0
            ran(5) = 0
            ran(2147483647) = 0
            ran(-2147483648) = 0
            ran(4) = 1
            status() = 2
            """);
    }

    private static void status() {
        Sentence.test("Promise 54", "See 6.", """
            status() = 0
            end(-1) ! 2
            status() = 2
            status() = 2                           # asking leaves it
            hole(0, 0) = 0
            status() = 0
            length(0, 0) ! 1
            status() = 1
            doubles(0, 0, -1) ! 4
            status() = 4
            doubles(0, 0, 1) = 1
            none(0, 0, 0) = 1
            mean(0, 0) ! 5
            status() = 5
            value(0, 0, 0) ! 9
            status() = 9
            """);
    }

    private static void digest() {
        String holes = "d, of 11, goes over x: d * 31 + x, wrapping: how many HOLES; of each X, Y, then of each SLOT its KIND, and if"
                + " it does not lack START, STEP, how many VALUES, and of each its WHOLE PART (NONE: 77); then the TOP of each LAYER"
                + " (-1: none).";
        Sentence.test("Promise 55", holes, """
            digest of 0 | 0 | 3 1 2 | 1 1 0 | 0 0 0 0 0 | 0
            hole(-1000, 1000) = 0
            digest of 1 | -1000 1000 0 0 0 0 0 0 | 0 | 3 1 2 | 1 1 0 | 0 0 0 0 0 | 0
            doubles(0, 0, 5) = 5
            none(0, 0, 0) = 1
            endless(0, 0, 1, true) = 1
            endless(0, 0, 2, false) = 1
            put(0, 0, 3, -7, -1) = -3
            put(0, 0, 4, 77, 0) = 77
            floats(0, 1, 1) = 1
            none(0, 1, 0) = 1
            shorts(0, 4, 0) = 0
            start(0, 4, 10000000, 10000) = 1
            feed(-1, 0, 0, 0, 0) = 20
            end(1) = 1
            codes(0, 5) = 1
            digest of 1 | -1000 1000 | 1 0 100 5 77 -9223372036854775808 9223372036854775807 -3 77 | 2 0 100 1 77 | 0 | 0 | 3 10000000 10000 0 | 4 0 100 1 255 | 0 | 3 1 2 | 1 1 0 | 0 0 0 0 0 | 0
            layer(0) = 0
            layer(4) = 1
            lack(0, 0) = 1
            lack(0, 1) = 1
            lack(0, 4) = 1
            lack(0, 5) = 1
            lay(1, 0, 10000000) = 10000000
            digest of 1 | -1000 1000 0 0 0 0 0 0 | -1 10000000 | 0 4 | 0 | 3 1 2 | 1 1 0 | 0 0 0 0 0 | 0
            hole(5, 6) = 1
            lay(0, 1, 0) = 0
            digest of 2 | -1000 1000 0 0 0 0 0 0 | -1 10000000 | 5 6 0 0 0 0 0 0 | 0 -1 | 0 4 | 0 | 3 1 2 | 1 1 0 | 0 0 0 0 0 | 0
            """);
        Sentence.test("Promise 55", "Of each LAYER its KIND, and of FAULTS a, b, c, THROW, SHIFTED (1 or 0).", """
            layer(1) = 0
            layer(2) = 1
            layer(3) = 2
            digest of 0 | 1 | 2 0 0 0 0 0 | 3 0 0 0 0 0 | 0 | 3 1 2 | 1 1 0 | 0 0 0 0 0 | 0
            line(1, -1000, 1000, -2000000) = 1
            throwOf(1, -100000) = -100000
            line(2, 1, 2, 3) = 1
            throwOf(2, 4) = 4
            shift(2) = 0
            digest of 0 | 1 | 2 -1000 1000 -2000000 -100000 0 | 3 1 2 3 4 1 | 0 | 3 1 2 | 1 1 0 | 0 0 0 0 0 | 0
            """);
        Sentence.test("Promise 55", "How many TRIANGLES, their HOLES; UNLIKE, STRETCHED, OUT; LENGTH, RISES (1 or 0), the WHOLE PART of"
                + " MARK; ran() of 0 to 4; copied().", """
            hole(0, 0) = 0
            hole(9, 0) = 1
            hole(0, 9) = 2
            triangle(2, 0, 1) = 0
            digest of 3 | 0 0 0 0 0 0 0 0 | 9 0 0 0 0 0 0 0 | 0 9 0 0 0 0 0 0 | 1 2 0 1 | 3 1 2 | 1 1 0 | 0 0 0 0 0 | 0
            costs(100, 50, 0) = 1
            window(-7, -1, 20, false) = 1
            digest of 3 | 0 0 0 0 0 0 0 0 | 9 0 0 0 0 0 0 0 | 0 9 0 0 0 0 0 0 | 1 2 0 1 | 100 50 0 | 20 0 -3 | 0 0 0 0 0 | 0
            window(1, 63, 1, true) = 1
            codes(0, 0) = 0
            splice(0, 0, 0, 0, 1) = 1
            layer(0) = 0
            layer(3) = 1
            3 * lack(0, 1)
            pick(0, 0, 0) ! 9
            pick(1, 0, 0) ! 9
            pick(1, 0, 0) ! 9
            digest of 3 | 0 0 4 0 100 0 0 0 0 0 0 | -1 -1 | 9 0 0 0 0 0 0 0 | -1 -1 | 0 9 0 0 0 0 0 0 | -1 -1 | 0 | 3 0 0 0 0 0 | 1 2 0 1 | 100 50 0 | 1 1 9223372036854775807 | 1 0 0 2 0 | 1
            """);
        Sentence.test("Promise 55", "Answers d; leaves STATUS as it is.", """
            end(1) ! 2
            same d
            status() = 2
            same d
            digest() = DUE
            status() = 2
            """.replace("DUE", String.valueOf(digestOfNothing())));
    }

    private static long digestOfNothing() {
        long d = 11;
        for (int x : new int[] {0, 0, 3, 1, 2, 1, 1, 0, 0, 0, 0, 0, 0, 0}) {
            d = d * 31 + x;
        }
        return d;
    }
}
