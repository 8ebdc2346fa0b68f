/** Promises 1 to 16 and 27 to 33: the TAPE, HOLES, LOGS, and what they tell. */
public final class HolesTest {
    public static void main(String[] args) {
        tape();
        holes();
        newLogs();
        changedLogs();
        gaps();
        copies();
        splices();
        undo();
        told();
        Script.finish();
    }

    private static void tape() {
        Script.run("Promise 1: A new object", """
            status() = 0
            triangles() = 0
            rows() = 0
            copied() = 0
            ran(0) = 0
            ran(4) = 0
            hole(0, 0) = 0
            undo() = 1
            undo() = 0
            kind(0, 0) ! 1
            tell(0) ! 1
            isBroken(0) ! 1
            row(0) ! 2
            edge(0) ! 2
            check() ! 9
            along() ! 9
            end(1) ! 2
            end(0) = 0
            """);
        Script.run("Promise 2: feed", """
            feed(16909060, -1, -2147483648, 0, 127) = 20
            hole(0, 0) = 0
            codes(0, 0) = 20
            value(0, 0, 0) = 1
            value(0, 0, 1) = 2
            value(0, 0, 2) = 3
            value(0, 0, 3) = 4
            value(0, 0, 4) = 255
            value(0, 0, 7) = 255
            value(0, 0, 8) = 128
            value(0, 0, 9) = 0
            value(0, 0, 16) = 0
            value(0, 0, 19) = 127
            15 * feed(1, 2, 3, 4, 5)
            feed(1, 2, 3, 4, 5) ! 6
            end(281) = 281
            feed(1, 2, 3, 4, 5) ! 6
            end(280) = 280
            feed(1, 2, 3, 4, 5) = 300
            codes(0, 1) = 300
            value(0, 1, 299) = 5
            value(0, 1, 283) = 1
            """);
        Script.run("Promise 3: end", """
            end(-1) ! 2
            end(1) ! 2
            feed(16909060, 84281096, 0, 0, 0) = 20
            end(21) ! 2
            end(20) = 20
            end(-2147483648) ! 2
            end(6) = 6
            end(7) ! 2
            feed(1, 1, 1, 1, 1) = 26
            hole(0, 0) = 0
            codes(0, 0) = 26
            value(0, 0, 5) = 6
            value(0, 0, 6) = 0
            value(0, 0, 9) = 1
            end(0) = 0
            """);
    }

    private static void holes() {
        Script.run("Promise 4: hole", """
            hole(1000, -1000) = 0
            hole(-1000, 1000) = 1
            hole(1000, -1000) ! 6
            hole(1001, 0) ! 6
            hole(-1001, 0) ! 6
            hole(0, 1001) ! 6
            hole(0, -1001) ! 6
            hole(2147483647, -2147483648) ! 6
            hole(1000, 1000) = 2
            undo() = 1
            hole(5, 5) = 2
            hole(1000, 1000) = 3
            """);
        Script.run("Promise 4: room", """
            hole(0, 0) = 0
            hole(1, 0) = 1
            hole(2, 0) = 2
            hole(3, 0) = 3
            hole(4, 0) = 4
            hole(5, 0) = 5
            hole(6, 0) = 6
            hole(7, 0) = 7
            hole(8, 0) = 8
            hole(9, 0) = 9
            hole(10, 0) = 10
            hole(11, 0) = 11
            hole(12, 0) = 12
            hole(13, 0) = 13
            hole(14, 0) = 14
            hole(15, 0) = 15
            hole(16, 0) = 16
            hole(17, 0) = 17
            hole(18, 0) = 18
            hole(19, 0) = 19
            hole(20, 0) = 20
            hole(21, 0) = 21
            hole(22, 0) = 22
            kind(23, 0) ! 1
            hole(23, 0) = 23
            kind(23, 0) = 0
            hole(24, 0) ! 6
            kind(24, 0) ! 2
            undo() = 1
            hole(24, 0) = 23
            """);
    }

    private static void newLogs() {
        for (String name : new String[] {"doubles", "floats", "shorts"}) {
            String kind = name.equals("doubles") ? "1" : name.equals("floats") ? "2" : "3";
            Script.run("Promises 5 to 7: " + name, """
                NAME(24, 9, 999) ! 2
                NAME(-1, 9, 999) ! 2
                NAME(0, 9, 999) ! 1
                hole(0, 0) = 0
                NAME(1, 0, 5) ! 1
                NAME(0, 6, 301) ! 2
                NAME(0, -1, -1) ! 2
                NAME(0, 0, 301) ! 6
                NAME(0, 0, 2147483647) ! 6
                NAME(0, 0, -1) ! 4
                NAME(0, 0, -2147483648) ! 4
                kind(0, 0) = 0
                NAME(0, 0, 0) = 0
                kind(0, 0) = KIND
                length(0, 0) = 0
                NAME(0, 5, 300) = 300
                length(0, 5) = 300
                value(0, 5, 299) = 0
                start(0, 5, 7, 9) = 1
                put(0, 5, 0, 3, 0) = 3
                NAME(0, 5, 2) = 2     # a new LOG: START and STEP as at first
                value(0, 5, 0) = 0
                layer(4) = 0
                put(0, 5, 1, 1, 0) = 1
                pick(0, 0, 5) = 100
                """.replace("NAME", name).replace("KIND", kind));
        }
        Script.run("Promise 8: codes", """
            feed(1, 2, 3, 4, 5) = 20
            codes(24, 0) ! 2
            codes(23, 0) ! 1
            hole(0, 0) = 0
            codes(0, 6) ! 2
            codes(0, -1) ! 2
            end(4) = 4           # the TAPE stays while it is refused
            codes(0, 2) = 4
            end(1) ! 2
            kind(0, 2) = 4
            length(0, 2) = 4
            value(0, 2, 3) = 1
            codes(0, 2) = 0
            length(0, 2) = 0
            kind(0, 2) = 4
            undo() = 1
            length(0, 2) = 4
            undo() = 1
            kind(0, 2) = 0
            end(1) ! 2           # undo() leaves the TAPE
            """);
        Script.run("Promise 9: lack", """
            lack(24, 0) ! 2
            lack(0, 0) ! 1
            hole(0, 0) = 0
            lack(0, 6) ! 2
            lack(0, 0) = 0
            shorts(0, 0, 3) = 3
            lack(0, 0) = 1
            kind(0, 0) = 0
            length(0, 0) ! 1
            lack(0, 0) = 0
            undo() = 1           # of what changed nothing
            kind(0, 0) = 0
            undo() = 1
            kind(0, 0) = 3
            """);
    }

    private static void changedLogs() {
        Script.run("Promise 10: start", """
            start(24, 6, -1, 1) ! 6
            start(24, 6, 10000001, 1) ! 6
            start(24, 6, 0, 0) ! 6
            start(24, 6, 0, 10001) ! 6
            start(24, 6, 0, 1) ! 2
            start(0, 6, 0, 1) ! 1
            hole(0, 0) = 0
            start(0, 6, 0, 1) ! 2
            start(0, 0, 0, 1) ! 1
            doubles(0, 0, 3) = 3
            put(0, 0, 2, 5, 0) = 5
            start(0, 0, 10000000, 10000) = 1
            start(0, 0, 0, 1) = 1
            layer(4) = 0
            pick(0, 0, 0) = 2
            start(0, 0, 30, 7) = 1
            value(0, 0, 2) = 5
            pick(0, 0, 0) = 44
            undo() = 1
            undo() = 1
            pick(0, 0, 0) = 2
            """);
        Script.run("Promise 11: put", """
            put(24, 6, 9, 1, 201) ! 6
            put(24, 6, 9, 1, -201) ! 6
            put(24, 6, 9, 1, -2147483648) ! 6
            put(24, 6, 9, 1, 200) ! 2
            put(0, 6, 9, 1, 200) ! 1
            hole(0, 0) = 0
            put(0, 6, 9, 1, 200) ! 2
            put(0, 0, 9, 1, 200) ! 1
            doubles(0, 0, 3) = 3
            floats(0, 1, 3) = 3
            shorts(0, 2, 3) = 3
            codes(0, 3) = 0
            put(0, 0, 3, 1, 0) ! 2
            put(0, 0, -1, 1, 0) ! 2
            put(0, 3, 0, 1, 0) ! 2
            put(0, 0, 0, -7, -1) = -3
            put(0, 0, 1, 2147483647, 32) = 9223372032559808512
            put(0, 0, 1, -2147483648, 32) = -9223372036854775808
            put(0, 0, 1, -2147483648, 33) = -9223372036854775808
            put(0, 0, 1, 2147483647, 33) = 9223372036854775807
            put(0, 0, 1, 2147483647, 200) = 9223372036854775807
            put(0, 0, 1, 2147483647, -31) = 0
            put(0, 0, 1, 2147483647, -30) = 1
            put(0, 1, 0, 16777217, 0) = 16777216      # halfway: to the even one
            put(0, 1, 0, 16777219, 0) = 16777220
            put(0, 1, 0, -16777217, 0) = -16777216
            put(0, 1, 0, 2147483647, 0) = 2147483648
            put(0, 1, 0, 1, 127) = 9223372036854775807
            part(0, 1, 0, 1, 0, 1) = 0                # not ENDLESS yet
            put(0, 1, 0, 1, 128) = 9223372036854775807
            part(0, 1, 0, 1, 0, 1) ! 9
            put(0, 1, 0, -1, 128) = -9223372036854775808
            part(0, 1, 0, 1, 0, 1) ! 9
            put(0, 2, 0, 32768, 0) = -32768
            put(0, 2, 0, -32769, 0) = 32767
            put(0, 2, 0, 2147483647, 0) = -1
            put(0, 2, 0, 2147483647, 9) = -1          # the nearest int
            put(0, 2, 0, -3, 100) = 0
            put(0, 2, 0, -3, -1) = -1
            feed(1, 1, 1, 1, 1) = 20
            codes(0, 4) = 20
            put(0, 4, 0, -1, 0) = 65535
            put(0, 4, 0, 65536, 0) = 0
            put(0, 4, 0, 65537, 0) = 1
            put(0, 4, 0, 7, 100) = 65535
            put(0, 4, 19, 40000, 0) = 40000
            value(0, 4, 19) = 40000
            """);
        Script.run("Promise 12: fill", """
            fill(24, 6, 9, -1, 1, 201, 1) ! 6
            fill(24, 6, 9, -1, 1, -201, 1) ! 6
            fill(24, 6, 9, -1, 1, 0, 1) ! 2
            fill(0, 6, 9, -1, 1, 0, 1) ! 1
            hole(0, 0) = 0
            fill(0, 6, 9, -1, 1, 0, 1) ! 2
            fill(0, 0, 9, -1, 1, 0, 1) ! 1
            doubles(0, 0, 5) = 5
            fill(0, 0, 9, -1, 1, 0, 1) ! 4
            fill(0, 0, 9, -2147483648, 1, 0, 1) ! 4
            fill(0, 0, 4, 2, 1, 0, 1) ! 2
            fill(0, 0, 5, 1, 1, 0, 1) ! 2
            fill(0, 0, -1, 2, 1, 0, 1) ! 2
            fill(0, 0, 0, 6, 1, 0, 1) ! 2
            fill(0, 0, 1, 2147483647, 1, 0, 1) ! 2
            fill(0, 0, 2147483647, 2147483647, 1, 0, 1) ! 2
            value(0, 0, 4) = 0
            fill(0, 0, 1, 3, 10, 1, -7) = 3
            value(0, 0, 0) = 0
            value(0, 0, 1) = 20
            value(0, 0, 2) = 6
            value(0, 0, 3) = -8
            value(0, 0, 4) = 0
            fill(0, 0, 5, 0, 1, 0, 1) = 0
            fill(0, 0, 0, 0, 1, 0, 1) = 0
            fill(0, 0, 0, 5, 2147483647, 0, 2147483647) = 5
            value(0, 0, 4) = 10737418235
            fill(0, 0, 0, 5, -2147483648, 1, -2147483648) = 5
            value(0, 0, 4) = -21474836480
            undo() = 1
            value(0, 0, 4) = 10737418235
            none(0, 0, 2) = 1
            fill(0, 0, 2, 1, 6, 0, 1) = 1             # no NONE any more
            value(0, 0, 2) = 6
            shorts(0, 1, 2) = 2
            fill(0, 1, 0, 2, 2147483647, 0, 2) = 2    # the nearest int of what is beyond one
            value(0, 1, 1) = -1
            """);
    }

    private static void gaps() {
        Script.run("Promise 13: none", """
            none(24, 6, 9) ! 2
            none(0, 6, 9) ! 1
            hole(0, 0) = 0
            none(0, 6, 9) ! 2
            none(0, 0, 9) ! 1
            shorts(0, 0, 2) = 2
            none(0, 0, 9) ! 3
            codes(0, 1) = 0
            none(0, 1, 9) ! 3
            doubles(0, 2, 2) = 2
            floats(0, 3, 2) = 2
            none(0, 2, 2) ! 2
            none(0, 2, -1) ! 2
            none(0, 2, 1) = 1
            none(0, 3, 0) = 1
            value(0, 2, 1) ! 9
            value(0, 3, 0) ! 9
            value(0, 3, 1) = 0
            none(0, 3, 0) = 1
            put(0, 3, 0, 4, 0) = 4
            value(0, 3, 0) = 4
            undo() = 1
            value(0, 3, 0) ! 9
            """);
        Script.run("Promise 14: endless", """
            endless(24, 6, 9, true) ! 2
            endless(0, 6, 9, true) ! 1
            hole(0, 0) = 0
            endless(0, 6, 9, true) ! 2
            endless(0, 0, 9, true) ! 1
            shorts(0, 0, 2) = 2
            endless(0, 0, 9, true) ! 3
            codes(0, 1) = 0
            endless(0, 1, 9, true) ! 3
            doubles(0, 2, 2) = 2
            floats(0, 3, 2) = 2
            endless(0, 2, 2, true) ! 2
            endless(0, 2, -1, true) ! 2
            endless(0, 2, 1, true) = 1
            value(0, 2, 1) = -9223372036854775808
            endless(0, 3, 0, false) = 1
            value(0, 3, 0) = 9223372036854775807
            none(0, 3, 0) = 1
            endless(0, 3, 0, true) = 1                # no NONE any more
            value(0, 3, 0) = -9223372036854775808
            undo() = 1
            value(0, 3, 0) ! 9
            """);
    }

    private static void copies() {
        Script.run("Promise 15: copy", """
            copy(24, 6, 0, 24, 6, 0, 0) ! 2
            copy(0, 6, 0, 24, 6, 0, 0) ! 1
            hole(0, 0) = 0
            hole(1, 0) = 1
            copy(0, 6, 0, 24, 6, 0, 0) ! 2
            copy(0, 0, 0, 24, 6, 0, 0) ! 1
            doubles(0, 0, 5) = 5
            copy(0, 0, 9, 24, 6, 9, -1) ! 2
            copy(0, 0, 9, 2, 6, 9, -1) ! 1
            copy(0, 0, 9, 1, 6, 9, -1) ! 2
            copy(0, 0, 9, 1, 0, 9, -1) ! 1
            floats(1, 0, 5) = 5
            copy(0, 0, 9, 1, 0, 9, -1) ! 3
            doubles(1, 1, 3) = 3
            copy(0, 0, 0, 1, 1, 0, -1) ! 2
            copy(0, 0, 0, 1, 1, 0, 4) ! 2
            copy(0, 0, 3, 1, 1, 0, 3) ! 2
            copy(0, 0, -1, 1, 1, 0, 1) ! 2
            copy(0, 0, 0, 1, 1, -1, 1) ! 2
            copy(0, 0, 0, 1, 1, 1, 3) ! 2
            copy(0, 0, 0, 1, 1, 0, 2147483647) ! 2
            copy(0, 0, 2147483647, 1, 1, 2147483647, 2147483647) ! 2
            fill(0, 0, 0, 5, 1, 0, 1) = 5
            none(0, 0, 3) = 1
            start(1, 1, 50, 60) = 1
            copy(0, 0, 2, 1, 1, 0, 3) = 3
            value(1, 1, 0) = 3
            value(1, 1, 1) ! 9
            value(1, 1, 2) = 5
            copy(0, 0, 0, 1, 1, 1, 1) = 1             # NONE goes when a number comes
            value(1, 1, 1) = 1
            undo() = 1
            copy(0, 0, 5, 1, 1, 3, 0) = 0
            copy(0, 0, 0, 0, 0, 1, 4) = 4             # as they were ahead of it
            value(0, 0, 0) = 1
            value(0, 0, 1) = 1
            value(0, 0, 2) = 2
            value(0, 0, 3) = 3
            value(0, 0, 4) ! 9
            undo() = 1
            copy(0, 0, 1, 0, 0, 0, 4) = 4
            value(0, 0, 0) = 2
            value(0, 0, 2) ! 9
            value(0, 0, 3) = 5
            value(0, 0, 4) = 5
            layer(4) = 0
            pick(0, 1, 1) = 170                       # START and STEP are not copied
            """);
    }

    private static void splices() {
        Script.run("Promise 16: splice", """
            splice(24, 6, 24, 6, 7) ! 6
            splice(24, 6, 24, 6, -1) ! 6
            splice(24, 6, 24, 6, 0) ! 2
            splice(0, 6, 24, 6, 0) ! 1
            hole(0, 0) = 0
            hole(1, 0) = 1
            splice(0, 6, 24, 6, 0) ! 2
            splice(0, 6, 2, 6, 0) ! 1
            copied() = 0
            doubles(0, 0, 1) = 1
            floats(0, 1, 2) = 2
            shorts(0, 2, 3) = 3
            start(0, 2, 11, 13) = 1
            splice(0, 0, 1, 3, 3) = 3
            copied() = 3
            kind(1, 3) = 1
            kind(1, 4) = 2
            kind(1, 5) = 3
            length(1, 5) = 3
            layer(4) = 0
            pick(0, 1, 5) = 11
            put(0, 2, 0, 5, 0) = 5                    # the LOG that came is its own
            value(1, 5, 0) = 0
            put(1, 5, 1, 6, 0) = 6
            value(0, 2, 1) = 0
            splice(0, 0, 24, 3, 3) ! 2
            copied() = 3
            splice(0, 0, 1, 3, 7) ! 6
            copied() = 3
            splice(0, 3, 1, 0, 3) ! 1
            copied() = 0
            """);
        Script.run("Promise 16: what has come when it stops", """
            hole(0, 0) = 0
            hole(1, 0) = 1
            doubles(0, 0, 1) = 1
            floats(0, 1, 2) = 2
            shorts(0, 5, 2) = 2
            same before
            splice(0, 0, 1, 0, 3) ! 1
            copied() = 2
            kind(1, 0) = 1
            kind(1, 1) = 2
            kind(1, 2) = 0
            undo() = 1
            kind(1, 0) = 0
            kind(1, 1) = 0
            copied() = 2
            splice(0, 5, 1, 0, 2) ! 2
            copied() = 1
            kind(1, 0) = 3
            undo() = 1
            splice(0, 0, 1, 5, 2) ! 2
            copied() = 1
            kind(1, 5) = 1
            undo() = 1
            splice(0, 0, 1, 6, 2) ! 2
            copied() = 0
            splice(0, -1, 1, 0, 2) ! 2
            splice(0, 2147483647, 1, 2147483647, 2) ! 2
            splice(0, 0, 1, -1, 2) ! 2
            same before                               # copied() is 0 again
            splice(0, 2, 1, 0, 1) ! 1                 # none have come: undo() takes back what was ahead
            undo() = 1
            kind(0, 5) = 0
            splice(0, 2, 1, 0, 0) = 0
            copied() = 0
            splice(0, 99, 1, -99, 0) = 0
            undo() = 1
            undo() = 1
            kind(0, 1) = 2
            """);
        Script.run("Promise 16: one by one in one HOLE", """
            hole(0, 0) = 0
            doubles(0, 0, 1) = 1
            floats(0, 1, 2) = 2
            shorts(0, 2, 3) = 3
            splice(0, 0, 0, 1, 3) = 3
            kind(0, 1) = 1
            kind(0, 2) = 1
            kind(0, 3) = 1
            undo() = 1
            splice(0, 1, 0, 0, 2) = 2
            kind(0, 0) = 2
            kind(0, 1) = 3
            kind(0, 2) = 3
            splice(0, 0, 0, 0, 3) = 3
            kind(0, 0) = 2
            hole(1, 1) = 1
            splice(0, 0, 1, 0, 6) ! 1
            copied() = 3
            splice(0, 0, 0, 3, 3) = 3
            splice(0, 0, 1, 0, 6) = 6
            copied() = 6
            kind(1, 5) = 3
            """);
    }

    private static void undo() {
        Script.run("Promise 27: undo, each call that changes", """
            undo() = 0
            same a
            hole(0, 0) = 0
            same b
            doubles(0, 0, 4) = 4
            same c
            floats(0, 0, 4) = 4
            same d
            shorts(0, 0, 4) = 4
            same e
            feed(1, 1, 1, 1, 1) = 20
            codes(0, 1) = 20
            same f
            lack(0, 1) = 1
            same g
            start(0, 0, 5, 5) = 1
            same h
            put(0, 0, 1, 5, 0) = 5
            same i
            fill(0, 0, 0, 4, 9, 0, -2) = 4
            same j
            doubles(0, 2, 2) = 2
            none(0, 2, 0) = 1
            same k
            endless(0, 2, 1, true) = 1
            same l
            copy(0, 0, 0, 0, 0, 1, 2) = 2
            same m
            window(3, 0, 2, false) = 1
            same n
            layer(0) = 0
            layer(3) = 1
            same o
            lay(0, 0, 30) = 30
            same p
            lay(1, 0, 20) = 20
            same q
            line(1, 1, 0, -5) = 1
            same r
            throwOf(1, 70) = 70
            same s
            shift(1) = 1
            same t
            back(1) = 1
            same u
            costs(7, 8, 9) = 1
            same v
            hole(10, 0) = 1
            hole(0, 10) = 2
            triangle(0, 1, 2) = 0
            undo() = 1
            undo() = 1
            undo() = 1
            same v
            undo() = 1
            same u
            undo() = 1
            same t
            undo() = 1
            same s
            undo() = 1
            same r
            undo() = 1
            same q
            undo() = 1
            same p
            undo() = 1
            same o
            undo() = 1
            undo() = 1
            same n
            undo() = 1
            same m
            undo() = 1
            same l
            undo() = 1
            same k
            undo() = 1
            undo() = 1
            same j
            undo() = 1
            same i
            undo() = 1
            same h
            undo() = 1
            same g
            undo() = 1
            same f
            undo() = 1
            same e
            undo() = 1
            same d
            undo() = 1
            same c
            undo() = 1
            same b
            undo() = 1
            same a
            undo() = 0
            """);
        Script.run("Promise 27: what undo leaves, and what it passes", """
            hole(0, 0) = 0
            hole(9, 0) = 1
            feed(1, 1, 1, 1, 1) = 20
            codes(0, 0) = 20
            splice(0, 0, 1, 0, 1) = 1
            match(0, 0, 1, 0) = 0
            tree(0) = 2
            layer(4) = 0
            pick(0, 0, 0) = 300
            feed(1, 1, 1, 1, 1) = 20
            end(3) = 3
            hole(0, 0) ! 6
            undo() = 1                # of pick(): none of the calls behind it counts
            top(0, 0) ! 9
            undo() = 1
            undo() = 1
            kind(1, 0) = 0
            rows() = 20
            row(19) = 20020
            check() = 0
            edge(0) = 100
            copied() = 1
            ran(4) = 1
            end(4) ! 2
            end(3) = 3
            undo() = 1
            undo() = 1
            kind(1, 0) ! 1
            edge(0) = 100
            check() = 0
            along() ! 1
            """);
        StringBuilder deep = new StringBuilder("hole(0, 0) = 0\n");
        deep.append("255 * lack(0, 0)\n255 * undo()\nundo() = 1\nundo() = 0\nkind(0, 0) ! 1\n");
        Script.run("Promise 27: as deep as the calls of an object go", deep.toString());
        Script.run("beyond the calls of an object, where answers are free, it ends and throws nothing", """
            hole(0, 0) = 0
            1000 * lack(0, 0)
            513 * undo()
            kind(0, 0) = 0
            """);
    }

    private static void told() {
        Script.run("Promises 28 and 29: kind, length", """
            kind(24, 6) ! 2
            kind(-1, 6) ! 2
            length(24, 6) ! 2
            kind(0, 6) ! 1
            length(0, 6) ! 1
            hole(0, 0) = 0
            kind(0, 6) ! 2
            kind(0, -1) ! 2
            length(0, 6) ! 2
            kind(0, 5) = 0
            length(0, 5) ! 1
            doubles(0, 0, 1) = 1
            floats(0, 1, 2) = 2
            shorts(0, 2, 3) = 3
            codes(0, 3) = 0
            kind(0, 0) = 1
            kind(0, 1) = 2
            kind(0, 2) = 3
            kind(0, 3) = 4
            length(0, 0) = 1
            length(0, 1) = 2
            length(0, 2) = 3
            length(0, 3) = 0
            """);
        Script.run("Promise 30: value", """
            value(24, 6, 9) ! 2
            value(0, 6, 9) ! 1
            hole(0, 0) = 0
            value(0, 6, 9) ! 2
            value(0, 5, 9) ! 1
            floats(0, 5, 3) = 3
            value(0, 5, 3) ! 2
            value(0, 5, -1) ! 2
            put(0, 5, 0, -15, -3) = -1
            value(0, 5, 0) = -1
            put(0, 5, 0, -7, -3) = 0
            value(0, 5, 0) = 0
            none(0, 5, 1) = 1
            value(0, 5, 1) ! 9
            endless(0, 5, 2, true) = 1
            value(0, 5, 2) = -9223372036854775808
            """);
        Script.run("Promise 31: part", """
            part(24, 6, 9, 0, 201, 0) ! 6
            part(24, 6, 9, 0, -201, 0) ! 6
            part(24, 6, 9, 0, 0, 2) ! 6
            part(24, 6, 9, 0, 0, -1) ! 6
            part(24, 6, 9, 0, 0, 0) ! 2
            part(0, 6, 9, 0, 0, 0) ! 1
            hole(0, 0) = 0
            part(0, 6, 9, 0, 0, 0) ! 2
            part(0, 0, 9, 0, 0, 0) ! 1
            shorts(0, 0, 1) = 1
            part(0, 0, 9, 0, 0, 0) ! 3
            codes(0, 1) = 0
            part(0, 1, 9, 0, 0, 0) ! 3
            doubles(0, 2, 3) = 3
            part(0, 2, 3, 0, 0, 0) ! 2
            none(0, 2, 0) = 1
            endless(0, 2, 1, false) = 1
            part(0, 2, 0, 0, 0, 0) ! 9
            part(0, 2, 1, 0, 0, 1) ! 9
            part(0, 2, 2, 0, 0, 0) ! 5
            part(0, 2, 2, 1, -200, 1) = 0             # of doubles no NUMBER but 0 is 0
            put(0, 2, 2, -17, 0) = -17
            part(0, 2, 2, 5, 0, 0) = -15
            part(0, 2, 2, 5, 0, 1) = -2
            part(0, 2, 2, -5, 0, 0) = -15
            part(0, 2, 2, -5, 0, 1) = -2
            part(0, 2, 2, 17, 0, 0) = -17
            part(0, 2, 2, 17, 0, 1) = 0
            part(0, 2, 2, 18, 0, 0) = 0
            part(0, 2, 2, 18, 0, 1) = -17
            put(0, 2, 2, 1, 200) = 9223372036854775807
            part(0, 2, 2, 7, 0, 1) = 4                # 2^200 = 2^2 by 7
            part(0, 2, 2, 3, -200, 1) = 0
            floats(0, 3, 1) = 1
            put(0, 3, 0, 33554440, 0) = 33554440
            part(0, 3, 0, 7, 0, 1) = 3
            part(0, 3, 0, 7, 0, 0) = 33554436         # 33554437 as a float
            part(0, 3, 0, 1, 128, 0) = 0              # by an ENDLESS one all is left
            part(0, 3, 0, 1, 128, 1) = 33554440
            part(0, 3, 0, -1, 128, 1) = 33554440
            part(0, 3, 0, 1, -149, 1) = 0
            part(0, 3, 0, 1, -150, 1) ! 5             # 0 as a float
            part(0, 3, 0, 3, -150, 1) = 0
            part(0, 3, 0, 16777217, 0, 1) = 8         # by 16777216 as a float
            """);
        Script.run("Promise 32: mean", """
            mean(24, 6) ! 2
            mean(0, 6) ! 1
            hole(0, 0) = 0
            mean(0, 6) ! 2
            mean(0, 0) ! 1
            doubles(0, 0, 4) = 4
            fill(0, 0, 0, 4, -5, -1, 0) = 4           # -2.5 each: whole parts -2
            mean(0, 0) = -2
            put(0, 0, 0, -1, 0) = -1
            mean(0, 0) = -1                           # -7 / 4
            none(0, 0, 1) = 1
            endless(0, 0, 2, true) = 1
            mean(0, 0) = -1                           # -3 / 2
            put(0, 0, 0, 1, 100) = 9223372036854775807
            put(0, 0, 3, 1, 100) = 9223372036854775807
            mean(0, 0) = -1                           # wraps to -2, by 2
            endless(0, 0, 0, true) = 1
            none(0, 0, 3) = 1
            mean(0, 0) ! 5
            codes(0, 1) = 0
            mean(0, 1) ! 5
            feed(-1, -1, -1, -1, -2) = 20
            codes(0, 1) = 20
            mean(0, 1) = 254
            """);
        Script.run("Promise 33: copied leaves STATUS", """
            hole(0, 0) = 0
            doubles(0, 0, 1) = 1
            splice(0, 0, 0, 1, 1) = 1
            end(5) ! 2
            copied() = 1
            status() = 2
            """);
    }
}
