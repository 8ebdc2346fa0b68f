/** Sentences of 'Terms', 2 PICKING and 3 LAYERS. */
public final class TermsSentencesTest {
    public static void main(String[] args) {
        holes();
        logs();
        numbers();
        wholeParts();
        windows();
        crossings();
        places();
        layers();
        lines();
        shifts();
        Sentence.finishParts("Terms", "2 PICKING", "3 LAYERS");
    }

    private static void holes() {
        Sentence.test("Terms", "A HOLE has a number, 0 to 23 as they are made", """
            k from 0 to 23: kind(k, 0) ! 1
            kind(-1, 0) ! 2
            kind(24, 0) ! 2
            k from 0 to 23: hole(k, 0) = k
            k from 0 to 23: kind(k, 0) = 0
            kind(-1, 0) ! 2
            kind(24, 0) ! 2
            hole(24, 0) ! 6
            """);
        Sentence.test("Terms", "stands at whole X and Y, -1000 to 1000 each", """
            hole(-1001, 0) ! 6
            hole(1001, 0) ! 6
            hole(0, -1001) ! 6
            hole(0, 1001) ! 6
            hole(-2147483648, 0) ! 6
            hole(2147483647, 0) ! 6
            hole(0, -2147483648) ! 6
            hole(0, 2147483647) ! 6
            hole(-1000, 0) = 0
            hole(1000, 0) = 1
            hole(0, -1000) = 2
            hole(0, 1000) = 3
            digest of 4 | -1000 0 0 0 0 0 0 0 | 1000 0 0 0 0 0 0 0 | 0 -1000 0 0 0 0 0 0 | 0 1000 0 0 0 0 0 0 | 0 | 3 1 2 | 1 1 0 | 0 0 0 0 0 | 0
            """);
        Sentence.test("Terms", "(no two at one place)", """
            hole(3, 4) = 0
            hole(3, 4) ! 6
            hole(4, 3) = 1
            hole(-3, 4) = 2
            hole(3, -4) = 3
            hole(3, 4) ! 6
            hole(4, 3) ! 6
            hole(3, -4) ! 6
            hole(-3, -4) = 4
            """);
        Sentence.test("Terms", "and has SLOTS 0 to 5; a SLOT holds a LOG or lacks.", """
            hole(0, 0) = 0
            kind(0, -1) ! 2
            kind(0, 6) ! 2
            kind(0, -2147483648) ! 2
            kind(0, 2147483647) ! 2
            k from 0 to 5: kind(0, k) = 0
            k from 0 to 5: length(0, k) ! 1
            k from 0 to 5: shorts(0, k, k) = k
            k from 0 to 5: length(0, k) = k
            shorts(0, 6, 1) ! 2
            shorts(0, -1, 1) ! 2
            lack(0, 5) = 1
            kind(0, 5) = 0
            kind(0, 4) = 3
            """);
    }

    private static void logs() {
        Sentence.test("Terms", "A LOG is of a KIND: 1 doubles, 2 floats, 3 shorts, 4 codes (0 to 65535)", """
            hole(0, 0) = 0
            doubles(0, 0, 1) = 1
            floats(0, 1, 1) = 1
            shorts(0, 2, 1) = 1
            feed(0, 0, 0, 0, 0) = 20
            codes(0, 3) = 20
            kind(0, 0) = 1
            kind(0, 1) = 2
            kind(0, 2) = 3
            kind(0, 3) = 4
            put(0, 3, 0, 0, 0) = 0
            put(0, 3, 0, -1, 0) = 65535
            put(0, 3, 0, 65535, 0) = 65535
            put(0, 3, 0, 65536, 0) = 0
            put(0, 3, 0, 32767, 0) = 32767
            put(0, 3, 0, 32768, 0) = 32768
            """);
        for (String kind : new String[] {"1 doubles", "2 floats", "3 shorts"}) {
            Sentence.test("Terms", "it has VALUES, 300 at most, each 0 at first", """
                hole(0, 0) = 0
                NAME(0, 0, 301) ! 6
                kind(0, 0) = 0
                NAME(0, 0, 300) = 300
                k from 0 to 9: value(0, 0, k) = 0
                value(0, 0, 299) = 0
                value(0, 0, 300) ! 2
                value(0, 0, -1) ! 2
                mean(0, 0) = 0
                NAME(0, 0, 0) = 0
                value(0, 0, 0) ! 2
                NAME(0, 0, 3) = 3
                digest of 1 | 0 0 KIND 0 100 3 0 0 0 0 0 0 0 0 | 0 | 3 1 2 | 1 1 0 | 0 0 0 0 0 | 0
                """.replace("NAME", kind.substring(2)).replace("KIND", kind.substring(0, 1)));
        }
        Sentence.test("Terms", "a START (0 to 10000000, at first 0) and a STEP (1 to 10000, at first 100)", """
            hole(0, 0) = 0
            doubles(0, 0, 0) = 0
            digest of 1 | 0 0 1 0 100 0 0 0 0 0 0 | 0 | 3 1 2 | 1 1 0 | 0 0 0 0 0 | 0
            start(0, 0, -1, 1) ! 6
            start(0, 0, 10000001, 1) ! 6
            start(0, 0, -2147483648, 1) ! 6
            start(0, 0, 2147483647, 1) ! 6
            start(0, 0, 0, 0) ! 6
            start(0, 0, 0, 10001) ! 6
            start(0, 0, 0, -1) ! 6
            start(0, 0, 0, -2147483648) ! 6
            start(0, 0, 0, 2147483647) ! 6
            start(0, 0, 0, 10000) = 1
            digest of 1 | 0 0 1 0 10000 0 0 0 0 0 0 | 0 | 3 1 2 | 1 1 0 | 0 0 0 0 0 | 0
            start(0, 0, 10000000, 1) = 1
            digest of 1 | 0 0 1 10000000 1 0 0 0 0 0 0 | 0 | 3 1 2 | 1 1 0 | 0 0 0 0 0 | 0
            """);
        Sentence.test("Terms", ": VALUE i, from 0 on, lies START + STEP * i deep (millimetres).", """
            hole(0, 0) = 0
            layer(4) = 0
            shorts(0, 0, 300) = 300
            put(0, 0, 0, 1, 0) = 1
            pick(0, 0, 0) = 0
            put(0, 0, 299, 2, 0) = 2
            pick(0, 0, 0) = 29900
            start(0, 0, 7, 1) = 1
            pick(0, 0, 0) = 306
            start(0, 0, 7010000, 10000) = 1
            pick(0, 0, 0) = 10000000
            put(0, 0, 0, 3, 0) = 3
            pick(0, 0, 0) = 7010000
            """);
        Sentence.test("Terms", "VALUES of doubles and floats may be NONE (not a number) or ENDLESS, above 0 or below.", """
            hole(0, 0) = 0
            doubles(0, 1, 3) = 3
            floats(0, 2, 3) = 3
            shorts(0, 3, 3) = 3
            feed(0, 0, 0, 0, 0) = 20
            codes(0, 4) = 20
            k from 1 to 2: none(0, k, 0) = 1
            k from 1 to 2: endless(0, k, 1, false) = 1
            k from 1 to 2: endless(0, k, 2, true) = 1
            k from 1 to 2: value(0, k, 0) ! 9
            k from 1 to 2: value(0, k, 1) = 9223372036854775807
            k from 1 to 2: value(0, k, 2) = -9223372036854775808
            k from 3 to 4: none(0, k, 0) ! 3
            k from 3 to 4: endless(0, k, 1, false) ! 3
            k from 3 to 4: endless(0, k, 2, true) ! 3
            """);
    }

    private static void numbers() {
        Sentence.test("Terms", "A NUMBER told by n and e (e from -200 to 200) is n * 2^e, as a double.", """
            hole(0, 0) = 0
            doubles(0, 0, 2) = 2
            put(0, 0, 0, 1, -201) ! 6
            put(0, 0, 0, 1, 201) ! 6
            put(0, 0, 0, 1, -2147483648) ! 6
            put(0, 0, 0, 1, 2147483647) ! 6
            put(0, 0, 0, 1, 200) = 9223372036854775807
            part(0, 0, 0, 7, 0, 1) = 4             # 2^200 = 2^2 by 7, exactly
            part(0, 0, 0, 1, 200, 1) = 0
            part(0, 0, 0, 3, 199, 1) = 9223372036854775807
            put(0, 0, 0, 2147483647, 200) = 9223372036854775807
            part(0, 0, 0, 2147483647, 199, 1) = 0  # no bit of n is lost
            part(0, 0, 0, 2147483647, 199, 0) = 9223372036854775807
            put(0, 0, 0, -2147483648, 200) = -9223372036854775808
            part(0, 0, 0, 7, 0, 1) = -1            # 2^231 = 1 by 7
            put(0, 0, 0, 0, 200) = 0
            put(0, 0, 0, 0, -200) = 0
            layer(0) = 0
            put(0, 0, 0, 2, -200) = 0
            put(0, 0, 1, 3, -200) = 0
            window(3, -200, 1, true) = 1
            pick(0, 0, 0) = 100                    # 2 * 2^-200 is below 3 * 2^-200
            window(1, -199, 1, true) = 1
            pick(0, 0, 0) ! 9                      # and is 2^-199
            put(0, 0, 0, -1, -200) = 0
            window(0, 0, 1, true) = 1
            pick(0, 0, 0) = 100                    # not 0
            """);
        Sentence.test("Terms", "As a VALUE of floats it is the float nearest to it (of two as near the even one", """
            hole(0, 0) = 0
            floats(0, 0, 3) = 3
            put(0, 0, 0, 16777215, 0) = 16777215
            put(0, 0, 0, 16777216, 0) = 16777216
            put(0, 0, 0, 16777217, 0) = 16777216
            put(0, 0, 0, 16777218, 0) = 16777218
            put(0, 0, 0, 16777219, 0) = 16777220
            put(0, 0, 0, -16777217, 0) = -16777216
            put(0, 0, 0, -16777219, 0) = -16777220
            put(0, 0, 0, 2147483583, 0) = 2147483520
            put(0, 0, 0, 2147483584, 0) = 2147483648
            put(0, 0, 0, 2147483647, 0) = 2147483648
            put(0, 0, 0, -2147483648, 0) = -2147483648
            fill(0, 0, 0, 3, 2147483647, 0, 193) = 3
            value(0, 0, 2) = 2147484160            # 2147484033 is nearer to it than to 2147483904
            layer(4) = 0
            floats(0, 1, 2) = 2
            put(0, 1, 1, 1, -149) = 0
            pick(0, 0, 1) = 100                    # the least float above 0
            put(0, 1, 1, 1, -150) = 0
            pick(0, 0, 1) = 0                      # as near to 0, which is even
            put(0, 1, 1, 3, -151) = 0
            pick(0, 0, 1) = 100                    # nearer to the least float
            put(0, 1, 1, 1, -200) = 0
            pick(0, 0, 1) = 0
            part(0, 1, 1, 1, 0, 1) = 0             # 0 is neither NONE nor ENDLESS
            """);
        Sentence.test("Terms", ", ENDLESS if it is too great, as the language's cast)", """
            hole(0, 0) = 0
            floats(0, 0, 1) = 1
            put(0, 0, 0, 16777215, 104) = 9223372036854775807
            part(0, 0, 0, 16777215, 103, 1) = 0    # the greatest float
            put(0, 0, 0, 2147483583, 97) = 9223372036854775807
            part(0, 0, 0, 16777215, 104, 1) = 0    # nearer to it than to 2^128
            put(0, 0, 0, 2147483584, 97) = 9223372036854775807
            part(0, 0, 0, 1, 0, 1) ! 9             # as near to 2^128, which is even
            put(0, 0, 0, -2147483583, 97) = -9223372036854775808
            part(0, 0, 0, 1, 0, 1) = 0
            put(0, 0, 0, -2147483584, 97) = -9223372036854775808
            part(0, 0, 0, 1, 0, 1) ! 9
            put(0, 0, 0, 1, 128) = 9223372036854775807
            part(0, 0, 0, 1, 0, 1) ! 9
            put(0, 0, 0, -1, 128) = -9223372036854775808
            mean(0, 0) ! 5
            put(0, 0, 0, 1, 127) = 9223372036854775807
            mean(0, 0) = 9223372036854775807
            fill(0, 0, 0, 1, 1, 200, 0) = 1
            mean(0, 0) ! 5
            doubles(0, 1, 1) = 1
            put(0, 1, 0, 1, 128) = 9223372036854775807
            mean(0, 1) = 9223372036854775807       # of doubles none is too great
            put(0, 1, 0, -2147483648, 200) = -9223372036854775808
            mean(0, 1) = -9223372036854775808
            """);
        Sentence.test("Terms", "of shorts and codes: its whole part (beyond an int: the nearest int)", """
            hole(0, 0) = 0
            shorts(0, 0, 2) = 2
            feed(0, 0, 0, 0, 0) = 20
            codes(0, 1) = 20
            put(0, 0, 0, 7, -1) = 3
            put(0, 0, 0, -7, -1) = -3
            put(0, 0, 0, -1, -1) = 0
            put(0, 1, 0, -7, -1) = 65533
            put(0, 1, 0, -1, -200) = 0
            put(0, 0, 0, 1073741823, 1) = -2       # 2147483646
            put(0, 0, 0, 1, 31) = -1               # 2147483647 is the nearest int
            put(0, 1, 0, 1, 31) = 65535
            put(0, 0, 0, 3, 32) = -1
            put(0, 0, 0, 5, 63) = -1               # beyond a long
            put(0, 1, 0, 5, 200) = 65535           # beyond a float
            put(0, 0, 0, -1, 31) = 0               # -2147483648 is an int
            put(0, 0, 0, -65537, 15) = 0           # -2147516416 is not: the nearest is -2147483648
            put(0, 0, 0, -2147483647, 1) = 0
            put(0, 1, 0, -5, 200) = 0
            fill(0, 0, 0, 2, 2147483647, 0, 1) = 2
            value(0, 0, 1) = -1                    # of 2147483648
            fill(0, 0, 0, 2, -2147483648, 0, -1) = 2
            value(0, 0, 1) = 0                     # of -2147483649
            """);
        Sentence.test("Terms", ", of that the lowest sixteen bits, with sign or without.", """
            hole(0, 0) = 0
            shorts(0, 0, 1) = 1
            feed(0, 0, 0, 0, 0) = 20
            codes(0, 1) = 20
            put(0, 0, 0, 32767, 0) = 32767
            put(0, 0, 0, 32768, 0) = -32768
            put(0, 0, 0, -32768, 0) = -32768
            put(0, 0, 0, -32769, 0) = 32767
            put(0, 0, 0, 65535, 0) = -1
            put(0, 0, 0, 65536, 0) = 0
            put(0, 0, 0, 131071, -1) = -1          # 65535.5
            put(0, 1, 0, 32767, 0) = 32767
            put(0, 1, 0, 32768, 0) = 32768
            put(0, 1, 0, 65535, 0) = 65535
            put(0, 1, 0, 65536, 0) = 0
            put(0, 1, 0, -32768, 0) = 32768
            put(0, 1, 0, -32769, 0) = 32767
            put(0, 1, 0, -65536, 0) = 0
            put(0, 1, 0, 2147418113, 0) = 1
            """);
    }

    private static void wholeParts() {
        Sentence.test("Terms", "The WHOLE PART of a VALUE is a long: cut toward 0, beyond a long the nearest one.", """
            hole(0, 0) = 0
            doubles(0, 0, 2) = 2
            floats(0, 1, 1) = 1
            k from 0 to 1: put(0, k, 0, 7, -2) = 1
            k from 0 to 1: put(0, k, 0, -7, -2) = -1
            k from 0 to 1: put(0, k, 0, 3, -2) = 0
            k from 0 to 1: put(0, k, 0, -3, -2) = 0
            k from 0 to 1: put(0, k, 0, 1, 62) = 4611686018427387904
            k from 0 to 1: put(0, k, 0, 1, 63) = 9223372036854775807
            k from 0 to 1: put(0, k, 0, -1, 63) = -9223372036854775808
            k from 0 to 1: put(0, k, 0, 1, 64) = 9223372036854775807
            k from 0 to 1: put(0, k, 0, -1, 64) = -9223372036854775808
            put(0, 0, 0, 2147483647, 32) = 9223372032559808512
            put(0, 0, 0, -2147483647, 32) = -9223372032559808512
            put(0, 1, 0, 16777215, 39) = 9223371487098961920
            fill(0, 0, 0, 2, 2147483647, 0, 2147483647) = 2
            value(0, 0, 1) = 4294967294
            endless(0, 0, 0, false) = 1
            value(0, 0, 0) = 9223372036854775807
            endless(0, 0, 0, true) = 1
            value(0, 0, 0) = -9223372036854775808
            """);
        Sentence.test("Terms",
                "One that can't be had is found as it is read: beyond (2), nothing there (1), not that KIND (3).", """
            none(24, 6, 300) ! 2
            none(23, 6, 300) ! 1
            hole(0, 0) = 0
            none(0, 6, 300) ! 2
            none(0, 5, 300) ! 1
            shorts(0, 5, 3) = 3
            none(0, 5, 300) ! 3
            doubles(0, 5, 3) = 3
            none(0, 5, 3) ! 2
            none(0, 5, 2) = 1
            line(16, 1, 1, 1) ! 2
            line(15, 1, 1, 1) ! 1
            layer(4) = 0
            line(0, 1, 1, 1) ! 3
            """);
    }

    private static void windows() {
        Sentence.test("2 PICKING", "The WINDOW has a MARK (a NUMBER, at first 0)", """
            hole(0, 0) = 0
            layer(0) = 0
            doubles(0, 0, 2) = 2
            put(0, 0, 0, -1, -200) = 0
            pick(0, 0, 0) = 100                    # 0 is at MARK, and what is below it by the least is below
            put(0, 0, 0, 0, 0) = 0
            pick(0, 0, 0) ! 9
            window(1, 201, 1, true) ! 6
            window(1, -201, 1, true) ! 6
            window(1, 200, 1, true) = 1
            put(0, 0, 1, 1, 200) = 9223372036854775807
            pick(0, 0, 0) = 100
            put(0, 0, 1, 2147483647, 169) = 9223372036854775807
            pick(0, 0, 0) ! 9                      # just below 2^200
            window(-2147483648, 200, 1, false) = 1
            endless(0, 0, 1, true) = 1
            pick(0, 0, 0) = 100
            window(1, -200, 1, true) = 1
            put(0, 0, 1, 1, -200) = 0
            pick(0, 0, 0) = 100
            """);
        Sentence.test("2 PICKING", ", a LENGTH (1 to 20, at first 1)", """
            hole(0, 0) = 0
            layer(0) = 0
            shorts(0, 0, 2) = 2
            put(0, 0, 0, -1, 0) = -1
            pick(0, 0, 0) = 100
            window(0, 0, 0, true) ! 6
            window(0, 0, -1, true) ! 6
            window(0, 0, 21, true) ! 6
            window(0, 0, -2147483648, true) ! 6
            window(0, 0, 2147483647, true) ! 6
            pick(0, 0, 0) = 100                    # the WINDOW is as it was
            window(0, 0, 1, true) = 1
            window(0, 0, 20, true) = 1
            pick(0, 0, 0) ! 9
            shorts(0, 0, 40) = 40
            fill(0, 0, 0, 20, -1, 0, 0) = 20
            pick(0, 0, 0) = 2000
            """);
        Sentence.test("2 PICKING", ", and RISES (at first) or falls.", """
            hole(0, 0) = 0
            layer(0) = 0
            shorts(0, 0, 3) = 3
            put(0, 0, 1, -1, 0) = -1
            pick(0, 0, 0) = 200
            window(0, 0, 1, false) = 1
            pick(0, 0, 0) = 100
            window(0, 0, 1, true) = 1
            pick(0, 0, 0) = 200
            """);
        Sentence.quote("2 PICKING", "PICKING.");
    }

    private static void crossings() {
        Sentence.test("2 PICKING", "A place i of a LOG CROSSES, if LENGTH VALUES stand ahead of it, LENGTH from it on", """
            hole(0, 0) = 0
            layer(0) = 0
            layer(1) = 1
            shorts(0, 0, 0) = 0
            pick(0, 0, 0) ! 9
            pick(1, 0, 0) ! 9
            shorts(0, 0, 1) = 1
            put(0, 0, 0, -1, 0) = -1
            pick(0, 0, 0) ! 9
            pick(1, 0, 0) ! 9
            shorts(0, 0, 2) = 2
            put(0, 0, 0, -1, 0) = -1
            pick(0, 0, 0) = 100                    # the first place that can
            pick(1, 0, 0) = 100                    # and the last
            lay(1, 0, -1) = -1
            window(0, 0, 3, true) = 1
            shorts(0, 0, 5) = 5
            fill(0, 0, 0, 2, -1, 0, 0) = 2
            pick(0, 0, 0) ! 9                      # two ahead, three from it on
            fill(0, 0, 0, 3, -1, 0, 0) = 3
            pick(0, 0, 0) ! 9                      # three ahead, two from it on
            pick(1, 0, 0) ! 9
            shorts(0, 0, 6) = 6
            fill(0, 0, 0, 3, -1, 0, 0) = 3
            pick(0, 0, 0) = 300
            pick(1, 0, 0) = 300
            window(0, 0, 20, true) = 1
            shorts(0, 0, 39) = 39
            fill(0, 0, 0, 19, -1, 0, 0) = 19
            pick(0, 0, 0) ! 9
            put(0, 0, 19, -1, 0) = -1
            pick(0, 0, 0) ! 9
            shorts(0, 0, 300) = 300
            fill(0, 0, 0, 280, -1, 0, 0) = 280
            pick(1, 0, 0) = 28000                  # the last place of the longest LOG that can
            put(0, 0, 280, -1, 0) = -1
            pick(1, 0, 0) ! 9
            """);
        String of = "and of these all ahead are below MARK, all others at MARK or above"
                + " (falling: all ahead at MARK or above, all others below).";
        for (String way : new String[] {"true 4 5", "false 5 4"}) {
            String[] words = way.split(" ");
            Sentence.test("2 PICKING", of, """
                hole(0, 0) = 0
                layer(0) = 0
                doubles(0, 0, 6) = 6
                window(5, 0, 3, RISES) = 1
                fill(0, 0, 0, 3, AHEAD, 0, 0) = 3
                fill(0, 0, 3, 3, BEHIND, 0, 0) = 3
                pick(0, 0, 0) = 300
                put(0, 0, 0, BEHIND, 0) = BEHIND       # each of them alone
                pick(0, 0, 0) ! 9
                undo() = 1
                put(0, 0, 1, BEHIND, 0) = BEHIND
                pick(0, 0, 0) ! 9
                undo() = 1
                put(0, 0, 2, BEHIND, 0) = BEHIND
                pick(0, 0, 0) ! 9
                undo() = 1
                put(0, 0, 3, AHEAD, 0) = AHEAD
                pick(0, 0, 0) ! 9
                undo() = 1
                put(0, 0, 4, AHEAD, 0) = AHEAD
                pick(0, 0, 0) ! 9
                undo() = 1
                put(0, 0, 5, AHEAD, 0) = AHEAD
                pick(0, 0, 0) ! 9
                undo() = 1
                pick(0, 0, 0) = 300
                """.replace("RISES", words[0]).replace("AHEAD", words[1]).replace("BEHIND", words[2]));
        }
        Sentence.test("2 PICKING", "NONE is neither below, nor at or above.", """
            hole(0, 0) = 0
            layer(0) = 0
            doubles(0, 0, 4) = 4
            fill(0, 0, 0, 2, -1, 0, 0) = 2
            window(0, 0, 2, true) = 1
            pick(0, 0, 0) = 200
            none(0, 0, 0) = 1
            pick(0, 0, 0) ! 9
            undo() = 1
            none(0, 0, 3) = 1
            pick(0, 0, 0) ! 9
            undo() = 1
            fill(0, 0, 0, 4, 1, 0, -1) = 4         # 1, 0, -1, -2
            window(0, 0, 2, false) = 1
            pick(0, 0, 0) = 200
            none(0, 0, 0) = 1
            pick(0, 0, 0) ! 9
            undo() = 1
            none(0, 0, 3) = 1
            pick(0, 0, 0) ! 9
            undo() = 1
            endless(0, 0, 0, false) = 1            # ENDLESS ones are
            endless(0, 0, 3, true) = 1
            pick(0, 0, 0) = 200
            endless(0, 0, 0, true) = 1
            pick(0, 0, 0) ! 9
            """);
        Sentence.test("2 PICKING", "Of floats MARK is taken as a float.", """
            hole(0, 0) = 0
            layer(0) = 0
            floats(0, 0, 2) = 2
            doubles(0, 1, 2) = 2
            k from 0 to 1: put(0, k, 1, 16777216, 0) = 16777216
            window(16777217, 0, 1, true) = 1
            pick(0, 0, 0) = 100                    # 16777216 as a float
            pick(0, 0, 1) ! 9
            k from 0 to 1: put(0, k, 1, 16777220, 0) = 16777220
            window(16777219, 0, 1, true) = 1
            pick(0, 0, 0) = 100                    # 16777220 as a float
            k from 0 to 1: put(0, k, 1, 16777218, 0) = 16777218
            pick(0, 0, 0) ! 9
            window(1, 128, 1, true) = 1            # ENDLESS as a float
            put(0, 0, 1, 1, 127) = 9223372036854775807
            pick(0, 0, 0) ! 9
            endless(0, 0, 1, false) = 1
            pick(0, 0, 0) = 100
            put(0, 1, 1, 1, 128) = 9223372036854775807
            pick(0, 0, 1) = 100
            window(-1, 128, 1, false) = 1
            endless(0, 0, 1, true) = 1
            pick(0, 0, 0) ! 9                      # not below -ENDLESS
            endless(0, 1, 1, true) = 1
            pick(0, 0, 1) = 100
            window(1, -150, 1, true) = 1           # 0 as a float
            k from 0 to 1: put(0, k, 0, -1, 0) = -1
            k from 0 to 1: put(0, k, 1, 0, 0) = 0
            pick(0, 0, 0) = 100
            pick(0, 0, 1) ! 9
            shorts(0, 2, 2) = 2
            put(0, 2, 1, 1, 0) = 1
            window(5, -3, 1, true) = 1
            pick(0, 0, 2) = 100                    # of shorts as it is
            window(9, -3, 1, true) = 1
            pick(0, 0, 2) ! 9
            """);
    }

    private static void places() {
        Sentence.test("2 PICKING", "A place, from 1 on, has a JUMP, if its VALUE and the one ahead of it are neither NONE"
                + " nor ENDLESS: how far they are from each other, as doubles.", """
            hole(0, 0) = 0
            layer(2) = 0
            layer(3) = 1
            shorts(0, 0, 0) = 0
            pick(0, 0, 0) ! 9
            shorts(0, 0, 1) = 1
            pick(0, 0, 0) ! 9                      # 0 is no place for a JUMP
            pick(1, 0, 0) ! 9
            shorts(0, 0, 2) = 2
            pick(0, 0, 0) = 100                    # a JUMP of 0
            doubles(0, 1, 5) = 5
            fill(0, 1, 0, 5, 0, 0, 10) = 5
            put(0, 1, 2, 900, 0) = 900
            pick(0, 0, 1) = 200
            none(0, 1, 2) = 1                      # neither to it nor from it
            pick(0, 0, 1) = 100
            pick(1, 0, 1) = 400
            endless(0, 1, 2, false) = 1
            pick(0, 0, 1) = 100
            pick(1, 0, 1) = 400
            endless(0, 1, 2, true) = 1
            pick(1, 0, 1) = 400
            none(0, 1, 0) = 1
            pick(0, 0, 1) = 400
            none(0, 1, 4) = 1
            pick(0, 0, 1) ! 9
            pick(1, 0, 1) ! 9
            shorts(0, 2, 3) = 3
            put(0, 2, 0, -32768, 0) = -32768
            put(0, 2, 1, 32767, 0) = 32767         # 65535 apart: beyond a short
            pick(0, 0, 2) = 100
            floats(0, 3, 5) = 5
            put(0, 3, 0, 1, 24) = 16777216
            put(0, 3, 2, -1, 0) = -1
            put(0, 3, 3, 1, 24) = 16777216         # 16777217 apart: beyond what floats tell apart
            pick(0, 0, 3) = 300
            pick(1, 0, 3) = 300
            floats(0, 4, 4) = 4
            put(0, 4, 1, 1, 127) = 9223372036854775807
            put(0, 4, 2, -1, 127) = -9223372036854775808
            pick(0, 0, 4) = 200                    # 2^128 apart: ENDLESS as a float, but not as doubles
            put(0, 4, 1, 1, 128) = 9223372036854775807
            pick(0, 0, 4) = 300                    # an ENDLESS one that was put
            """);
        Sentence.test("2 PICKING", "The PLACE of a LAYER in a LOG, by its KIND: Bed: the first that CROSSES; Lens: the last", """
            hole(0, 0) = 0
            layer(0) = 0
            layer(1) = 1
            shorts(0, 0, 9) = 9
            put(0, 0, 0, -1, 0) = -1
            pick(0, 0, 0) = 100
            pick(1, 0, 0) = 100                    # one place is both
            put(0, 0, 3, -1, 0) = -1
            put(0, 0, 7, -1, 0) = -1
            pick(0, 0, 0) = 100
            pick(1, 0, 0) = 800
            window(5, 0, 1, true) = 1
            pick(0, 0, 0) ! 9
            pick(1, 0, 0) ! 9
            """);
        Sentence.test("2 PICKING", "; Fault: the first of the greatest JUMPS; Cut: the last of them", """
            hole(0, 0) = 0
            layer(2) = 0
            layer(3) = 1
            shorts(0, 0, 300) = 300
            pick(0, 0, 0) = 100                    # all are 0
            pick(1, 0, 0) = 29900
            put(0, 0, 299, 4, 0) = 4
            put(0, 0, 0, -4, 0) = -4               # the first place and the last one
            pick(0, 0, 0) = 100
            pick(1, 0, 0) = 29900
            put(0, 0, 7, 2, 0) = 2
            pick(0, 0, 0) = 100
            put(0, 0, 9, -5, 0) = -5
            pick(0, 0, 0) = 900
            pick(1, 0, 0) = 1000
            put(0, 0, 10, -2, 0) = -2
            pick(0, 0, 0) = 900
            pick(1, 0, 0) = 900
            """);
        Sentence.test("2 PICKING", "; Marker: the first of the greatest VALUES (ENDLESS ones, too; NONE are passed).", """
            hole(0, 0) = 0
            layer(4) = 0
            doubles(0, 0, 0) = 0
            pick(0, 0, 0) ! 9
            doubles(0, 0, 1) = 1
            pick(0, 0, 0) = 0
            none(0, 0, 0) = 1
            pick(0, 0, 0) ! 9                      # all are NONE
            doubles(0, 0, 300) = 300
            pick(0, 0, 0) = 0
            none(0, 0, 0) = 1
            pick(0, 0, 0) = 100
            fill(0, 0, 1, 299, -9, 0, 0) = 299
            pick(0, 0, 0) = 100                    # all below 0
            k from 150 to 152: put(0, 0, k, -1, -200) = 0
            pick(0, 0, 0) = 15000                  # WHOLE PARTS don't count
            put(0, 0, 299, 2147483647, 200) = 9223372036854775807
            pick(0, 0, 0) = 29900
            endless(0, 0, 200, false) = 1
            endless(0, 0, 201, false) = 1
            pick(0, 0, 0) = 20000
            doubles(0, 1, 3) = 3
            k from 0 to 2: endless(0, 1, k, true) = 1
            pick(0, 0, 1) = 0                      # all ENDLESS below 0
            none(0, 1, 0) = 1
            pick(0, 0, 1) = 100
            put(0, 1, 2, -2147483648, 200) = -9223372036854775808
            pick(0, 0, 1) = 200
            """);
    }

    private static void layers() {
        Sentence.test("3 LAYERS", "LAYERS have numbers, 0 to 15 as they are made", """
            k from 0 to 15: tell(k) ! 1
            tell(-1) ! 2
            tell(16) ! 2
            tell(-2147483648) ! 2
            tell(2147483647) ! 2
            k from 0 to 15: layer(0) = k
            k from 0 to 15: tell(k) = 0
            tell(-1) ! 2
            tell(16) ! 2
            layer(0) ! 6
            """);
        Sentence.test("3 LAYERS", ", and a KIND: 0 Bed, 1 Lens (a Bed), 2 Fault, 3 Cut (a Fault), 4 Marker.", """
            layer(-1) ! 6
            layer(5) ! 6
            layer(-2147483648) ! 6
            layer(2147483647) ! 6
            k from 0 to 4: layer(k) = k
            digest of 0 | 0 | 1 | 2 0 0 0 0 0 | 3 0 0 0 0 0 | 4 | 0 | 3 1 2 | 1 1 0 | 0 0 0 0 0 | 0
            tell(0) = 0
            tell(1) = 1500
            tell(2) = 2000
            tell(3) = 3000
            tell(4) = 4000
            """);
        Sentence.test("3 LAYERS", "BEDS are all but Faults and Cuts; these are FAULTS.", """
            k from 0 to 4: layer(k) = k
            isShifted(0) ! 3
            isShifted(1) ! 3
            isShifted(2) = 0
            isShifted(3) = 0
            isShifted(4) ! 3
            hole(0, 0) = 0
            lay(4, 0, 5) = 5
            lay(2, 0, 9) = 9                       # FAULTS are in no ORDER with BEDS
            lay(3, 0, 8) = 8
            lay(1, 0, 6) ! 7
            lay(0, 0, 6) ! 7
            lay(1, 0, 5) = 5
            """);
        Sentence.test("3 LAYERS", "A LAYER has a TOP in a HOLE (0 to 10000000), or none.", """
            layer(0) = 0
            hole(0, 0) = 0
            hole(1, 0) = 1
            top(0, 0) ! 9
            lay(0, 0, -2) ! 6
            lay(0, 0, 10000001) ! 6
            lay(0, 0, -2147483648) ! 6
            lay(0, 0, 2147483647) ! 6
            lay(0, 0, 0) = 0
            top(0, 0) = 0
            lay(0, 0, 10000000) = 10000000
            top(0, 0) = 10000000
            top(0, 1) ! 9
            lay(0, 0, -1) = -1
            top(0, 0) ! 9
            """);
        Sentence.test("3 LAYERS", "In each HOLE the TOPS of BEDS that are there are in ORDER: that of a lower number is not"
                + " greater than that of a higher one.", """
            k from 0 to 15: layer(0) = k
            hole(0, 0) = 0
            hole(1, 0) = 1
            lay(15, 0, 7) = 7
            lay(0, 0, 8) ! 7
            lay(0, 0, 7) = 7                       # as great is in ORDER
            k from 1 to 14: lay(k, 0, 6) ! 7
            k from 1 to 14: lay(k, 0, 8) ! 7
            k from 1 to 14: lay(k, 0, 7) = 7
            lay(15, 0, 6) ! 7
            lay(15, 0, 8) = 8
            lay(0, 0, 6) = 6
            lay(14, 0, 9) ! 7
            lay(15, 0, -1) = -1                    # those that are there alone
            lay(14, 0, 9) = 9
            lay(0, 1, 8) = 8                       # in each HOLE for itself
            lay(15, 1, 7) ! 7
            """);
        Sentence.test("3 LAYERS", "What would put them out of ORDER is refused (7).", """
            layer(0) = 0
            layer(1) = 1
            layer(4) = 2
            hole(0, 0) = 0
            lay(1, 0, 100) = 100
            same before
            lay(0, 0, 101) ! 7
            lay(2, 0, 99) ! 7
            shorts(0, 0, 4) = 4
            put(0, 0, 2, -1, 0) = -1
            pick(0, 0, 0) ! 7                      # 300
            pick(2, 0, 0) ! 7                      # 0
            top(1, 0) = 100
            top(0, 0) ! 9
            top(2, 0) ! 9
            """);
    }

    private static void lines() {
        Sentence.test("3 LAYERS", "A FAULT has a LINE a, b (-1000 to 1000), c (-2000000 to 2000000), all 0 at first", """
            layer(2) = 0
            digest of 0 | 2 0 0 0 0 0 | 0 | 3 1 2 | 1 1 0 | 0 0 0 0 0 | 0
            line(0, -1001, 0, 0) ! 6
            line(0, 1001, 0, 0) ! 6
            line(0, 0, -1001, 0) ! 6
            line(0, 0, 1001, 0) ! 6
            line(0, 0, 0, -2000001) ! 6
            line(0, 0, 0, 2000001) ! 6
            line(0, -2147483648, 0, 0) ! 6
            line(0, 0, -2147483648, 0) ! 6
            line(0, 0, 0, -2147483648) ! 6
            line(0, 2147483647, 0, 0) ! 6
            line(0, 0, 2147483647, 0) ! 6
            line(0, 0, 0, 2147483647) ! 6
            digest of 0 | 2 0 0 0 0 0 | 0 | 3 1 2 | 1 1 0 | 0 0 0 0 0 | 0
            line(0, -1000, 1000, -2000000) = 1
            digest of 0 | 2 -1000 1000 -2000000 0 0 | 0 | 3 1 2 | 1 1 0 | 0 0 0 0 0 | 0
            line(0, 1000, -1000, 2000000) = 1
            digest of 0 | 2 1000 -1000 2000000 0 0 | 0 | 3 1 2 | 1 1 0 | 0 0 0 0 0 | 0
            """);
        Sentence.test("3 LAYERS", ", and a THROW (-100000 to 100000, at first 0).", """
            layer(3) = 0
            throwOf(0, -100001) ! 6
            throwOf(0, 100001) ! 6
            throwOf(0, -2147483648) ! 6
            throwOf(0, 2147483647) ! 6
            digest of 0 | 3 0 0 0 0 0 | 0 | 3 1 2 | 1 1 0 | 0 0 0 0 0 | 0
            throwOf(0, -100000) = -100000
            digest of 0 | 3 0 0 0 -100000 0 | 0 | 3 1 2 | 1 1 0 | 0 0 0 0 0 | 0
            throwOf(0, 100000) = 100000
            digest of 0 | 3 0 0 0 100000 0 | 0 | 3 1 2 | 1 1 0 | 0 0 0 0 0 | 0
            """);
        Sentence.test("3 LAYERS", "The SIDE of a HOLE is the sign of a * X + b * Y - c.", """
            layer(2) = 0
            hole(1000, 1000) = 0
            hole(-1000, -1000) = 1
            side(0, 0) = 0
            line(0, 1000, 1000, 1999999) = 1
            side(0, 0) = 1
            side(0, 1) = -1
            line(0, 1000, 1000, 2000000) = 1
            side(0, 0) = 0
            line(0, -1000, -1000, 1999999) = 1
            side(0, 1) = 1
            line(0, 1000, 1000, -1999999) = 1
            side(0, 1) = -1
            line(0, 1000, 1000, -2000000) = 1
            side(0, 1) = 0
            side(0, 0) = 1
            line(0, 0, 0, 1) = 1
            side(0, 0) = -1
            line(0, 0, 0, -1) = 1
            side(0, 0) = 1
            line(0, 0, 1, 1000) = 1
            side(0, 0) = 0
            """);
    }

    private static void shifts() {
        String grows = "It may be SHIFTED: in each HOLE where it has a TOP F, each TOP of a BED that is greater than F grows by"
                + " the MOVE: on SIDE 1 THROW; of a Cut on SIDE -1 less THROW; else 0.";
        Sentence.test("3 LAYERS", grows, """
            layer(2) = 0
            layer(3) = 1
            layer(0) = 2
            layer(1) = 3
            layer(4) = 4
            hole(5, 0) = 0
            hole(0, 0) = 1
            hole(-5, 0) = 2
            hole(9, 0) = 3
            k from 0 to 1: line(k, 1, 0, 0) = 1
            k from 0 to 1: throwOf(k, 50) = 50
            k from 0 to 3: lay(2, k, 100) = 100
            k from 0 to 3: lay(3, k, 101) = 101
            k from 0 to 3: lay(4, k, 1000) = 1000
            k from 0 to 2: lay(0, k, 100) = 100
            k from 0 to 2: lay(1, k, 500) = 500
            shift(0) = 6
            k from 0 to 3: top(2, k) = 100         # as great as F is not greater
            top(3, 0) = 151
            top(4, 0) = 1050
            top(3, 1) = 101                        # SIDE 0
            top(3, 2) = 101                        # SIDE -1 of a Fault
            top(4, 2) = 1000
            top(3, 3) = 101                        # no TOP F
            k from 0 to 2: top(0, k) = 100         # no BEDS
            k from 0 to 2: top(1, k) = 500
            shift(1) = 3
            top(3, 0) = 151
            top(4, 0) = 1100
            top(4, 1) = 1000
            top(4, 2) = 950                        # SIDE -1 of a Cut
            top(4, 3) = 1000
            """);
        Sentence.test("3 LAYERS", grows, """
            layer(4) = 0                           # the first LAYER, and the last
            k from 1 to 14: layer(2) = k
            layer(3) = 15
            hole(5, 0) = 0
            line(15, 1, 0, 0) = 1
            throwOf(15, 100000) = 100000
            lay(0, 0, 9900000) = 9900000
            lay(15, 0, 9899999) = 9899999
            shift(15) = 1
            top(0, 0) = 10000000
            back(15) = 1
            top(0, 0) = 9900000
            lay(0, 0, 9900001) = 9900001
            shift(15) ! 7
            """);
        Sentence.test("3 LAYERS", "Refused (7) if one of those would be no longer greater than F, or above 10000000.", """
            layer(3) = 0
            layer(0) = 1
            layer(4) = 2
            hole(5, 0) = 0
            hole(-5, 0) = 1
            line(0, 1, 0, 0) = 1
            throwOf(0, 100000) = 100000
            k from 0 to 1: lay(0, k, 7) = 7
            lay(2, 0, 9900001) = 9900001
            shift(0) ! 7
            lay(2, 0, 9900000) = 9900000           # to 10000000
            lay(1, 1, 100007) = 100007
            shift(0) ! 7                           # to F
            top(2, 0) = 9900000
            isShifted(0) = 0
            lay(1, 1, 100008) = 100008
            shift(0) = 2
            top(2, 0) = 10000000
            top(1, 1) = 8
            back(0) = 2
            lay(1, 1, 8) = 8
            shift(0) ! 7                           # below 0
            lay(1, 1, 7) = 7                       # not one of those
            shift(0) = 1
            """);
        Sentence.test("3 LAYERS", "While it is SHIFTED, its LINE, THROW and TOPS stay (10).", """
            layer(2) = 0
            layer(0) = 1
            hole(5, 0) = 0
            hole(6, 0) = 1
            shorts(0, 0, 9) = 9
            lay(0, 0, 7) = 7
            line(0, 1, 0, 0) = 1
            throwOf(0, 4) = 4
            shift(0) = 0
            same shifted
            line(0, 0, 0, 0) ! 10
            line(0, 1, 0, 0) ! 10                  # even as they are
            throwOf(0, 0) ! 10
            throwOf(0, 4) ! 10
            lay(0, 0, 8) ! 10
            lay(0, 0, 7) ! 10
            lay(0, 0, -1) ! 10
            lay(0, 1, 7) ! 10                      # where it has none, too
            pick(0, 0, 0) ! 10
            same shifted                           # no PLACE was looked for
            lay(1, 0, 8) = 8                       # those of BEDS may go
            lay(1, 0, 12) = 12
            back(0) = 1
            top(1, 0) = 8
            lay(0, 0, 8) = 8
            line(0, 0, 0, 0) = 1
            throwOf(0, 0) = 0
            pick(0, 0, 0) = 100
            """);
        Sentence.test("3 LAYERS", "It is taken back likewise, by the MOVE with the other sign.", """
            layer(3) = 0
            layer(0) = 1
            layer(4) = 2
            hole(5, 0) = 0
            hole(-5, 0) = 1
            hole(0, 0) = 2
            line(0, 1, 0, 0) = 1
            throwOf(0, 30) = 30
            k from 0 to 2: lay(0, k, 7) = 7
            k from 0 to 2: lay(1, k, 7) = 7
            k from 0 to 2: lay(2, k, 38) = 38
            same before
            shift(0) = 3
            top(2, 0) = 68
            top(2, 1) = 8
            top(2, 2) = 38
            back(0) = 3
            same before
            shift(0) = 3
            lay(2, 0, 37) = 37
            back(0) ! 7                            # to F
            lay(2, 0, 38) = 38
            lay(2, 1, 9999971) = 9999971
            back(0) ! 7                            # above 10000000
            isShifted(0) = 1
            lay(2, 1, 9999970) = 9999970
            back(0) = 3
            top(2, 0) = 8
            top(2, 1) = 10000000
            """);
        Sentence.test("3 LAYERS", "WEIGHTS: Bed and Lens 2, FAULTS 0, Marker 5.", """
            k from 0 to 4: layer(k) = k
            hole(0, 0) = 0
            hole(1, 0) = 1
            lay(0, 0, 0) = 0
            lay(0, 1, 1) = 1
            drift(0, 1) = 2
            lay(1, 0, 0) = 0
            lay(1, 1, 10) = 10
            drift(0, 1) = 22
            lay(2, 0, 0) = 0
            lay(2, 1, 10000000) = 10000000
            lay(3, 0, 0) = 0
            lay(3, 1, 10000000) = 10000000
            drift(0, 1) = 22
            lay(4, 0, 0) = 0
            lay(4, 1, 100) = 100
            drift(0, 1) = 522
            """);
    }
}
