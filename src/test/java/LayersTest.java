/** Promises 17 to 24, 34 to 39 and 53: the WINDOW, picking, LAYERS, FAULTS. */
public final class LayersTest {
    public static void main(String[] args) {
        windows();
        crossings();
        jumps();
        greatest();
        layers();
        tops();
        picks();
        faults();
        shifts();
        told();
        Script.finish();
    }

    private static void windows() {
        Script.run("Promise 17: window", """
            window(1, 201, 1, true) ! 6
            window(1, -201, 1, true) ! 6
            window(1, 0, 0, true) ! 6
            window(1, 0, 21, true) ! 6
            window(1, 0, -2147483648, true) ! 6
            window(1, 200, 20, false) = 1
            window(-1, -200, 1, true) = 1
            hole(0, 0) = 0
            doubles(0, 0, 4) = 4
            layer(0) = 0
            fill(0, 0, 0, 4, 5, 0, 1) = 4
            pick(0, 0, 0) ! 9
            window(7, 0, 2, true) = 1
            pick(0, 0, 0) = 200
            undo() = 1
            undo() = 1
            pick(0, 0, 0) ! 9
            """);
    }

    private static void crossings() {
        Script.run("2 PICKING: the first and the last that CROSSES", """
            hole(0, 0) = 0
            doubles(0, 0, 9) = 9
            layer(0) = 0
            layer(1) = 1
            pick(0, 0, 0) ! 9                         # all at MARK
            put(0, 0, 2, -1, 0) = -1
            put(0, 0, 6, -1, -200) = 0                # below 0 by little
            pick(0, 0, 0) = 300
            pick(1, 0, 0) = 700
            window(0, 0, 1, false) = 1
            pick(0, 0, 0) = 200
            pick(1, 0, 0) = 600
            window(0, 0, 2, false) = 1
            pick(0, 0, 0) ! 9
            fill(0, 0, 0, 9, 0, 0, 1) = 9             # 0 to 8
            window(4, 0, 4, true) = 1
            pick(0, 0, 0) = 400
            pick(1, 0, 0) = 400
            lay(1, 0, -1) = -1
            window(4, 0, 5, true) = 1
            pick(0, 0, 0) ! 9                         # four stand ahead
            window(5, 0, 4, true) = 1
            pick(0, 0, 0) = 500                       # four from it on, up to the last
            window(6, 0, 4, true) = 1
            pick(0, 0, 0) ! 9                         # three from it on
            window(9, -1, 3, true) = 1
            pick(0, 0, 0) = 500
            none(0, 0, 3) = 1
            pick(0, 0, 0) ! 9                         # NONE is not below
            undo() = 1
            none(0, 0, 6) = 1
            pick(0, 0, 0) ! 9                         # nor at or above
            undo() = 1
            endless(0, 0, 3, true) = 1
            endless(0, 0, 6, false) = 1
            pick(0, 0, 0) = 500
            window(9, -1, 3, false) = 1
            pick(0, 0, 0) ! 9
            fill(0, 0, 0, 9, 8, 0, -1) = 9            # 8 to 0
            pick(0, 0, 0) = 400
            window(4, 0, 3, false) = 1
            pick(0, 0, 0) = 500                       # at MARK is not below
            none(0, 0, 3) = 1
            pick(0, 0, 0) ! 9
            """);
        Script.run("2 PICKING: all KINDS, and MARK as a float", """
            hole(0, 0) = 0
            layer(0) = 0
            floats(0, 0, 4) = 4
            fill(0, 0, 2, 2, 16777216, 0, 0) = 2
            window(16777217, 0, 1, true) = 1
            pick(0, 0, 0) = 200                       # MARK is 16777216 as a float
            doubles(0, 1, 4) = 4
            fill(0, 1, 2, 2, 16777216, 0, 0) = 2
            pick(0, 0, 1) ! 9
            endless(0, 0, 3, false) = 1
            window(1, 200, 1, true) = 1
            pick(0, 0, 0) = 300                       # MARK is ENDLESS as a float
            endless(0, 1, 3, false) = 1
            pick(0, 0, 1) = 300
            shorts(0, 2, 3) = 3
            fill(0, 2, 0, 3, -3, 0, 1) = 3
            window(-5, -1, 1, true) = 1
            pick(0, 0, 2) = 100                       # -2.5 lies between -3 and -2
            feed(16909060, 0, 0, 0, 0) = 20
            codes(0, 3) = 20
            window(5, -1, 2, true) = 1
            pick(0, 0, 3) = 200
            window(1, 0, 1, false) = 1
            pick(0, 0, 3) = 400
            doubles(0, 4, 0) = 0
            pick(0, 0, 4) ! 9
            doubles(0, 4, 1) = 1
            pick(0, 0, 4) ! 9
            """);
        Script.run("2 PICKING: the longest LENGTH", """
            hole(0, 0) = 0
            layer(0) = 0
            layer(1) = 1
            window(0, 0, 20, true) = 1
            shorts(0, 0, 40) = 40
            fill(0, 0, 0, 40, -20, 0, 1) = 40
            pick(0, 0, 0) = 2000
            pick(1, 0, 0) = 2000
            shorts(0, 0, 39) = 39
            fill(0, 0, 0, 39, -20, 0, 1) = 39
            pick(0, 0, 0) ! 9
            fill(0, 0, 0, 39, -19, 0, 1) = 39
            pick(0, 0, 0) ! 9
            """);
    }

    private static void jumps() {
        Script.run("2 PICKING: JUMPS", """
            hole(0, 0) = 0
            layer(2) = 0
            layer(3) = 1
            doubles(0, 0, 6) = 6
            pick(0, 0, 0) = 100                       # all JUMPS are 0
            pick(1, 0, 0) = 500
            put(0, 0, 2, -9, 0) = -9
            pick(0, 0, 0) = 200
            pick(1, 0, 0) = 300
            none(0, 0, 2) = 1
            pick(0, 0, 0) = 100
            pick(1, 0, 0) = 500
            none(0, 0, 5) = 1
            pick(1, 0, 0) = 400
            endless(0, 0, 0, false) = 1
            pick(0, 0, 0) = 400                       # 3 to 4 alone has one
            endless(0, 0, 4, true) = 1
            pick(0, 0, 0) ! 9
            pick(1, 0, 0) ! 9
            doubles(0, 1, 1) = 1
            pick(0, 0, 1) ! 9
            doubles(0, 1, 0) = 0
            pick(1, 0, 1) ! 9
            floats(0, 2, 4) = 4
            put(0, 2, 0, 1, 24) = 16777216
            put(0, 2, 1, -1, 0) = -1                  # 16777217 apart, as doubles
            put(0, 2, 2, 1, 24) = 16777216
            put(0, 2, 3, 0, 0) = 0
            pick(0, 0, 2) = 100
            pick(1, 0, 2) = 200
            """);
    }

    private static void greatest() {
        Script.run("2 PICKING: the greatest VALUE", """
            hole(0, 0) = 0
            layer(4) = 0
            doubles(0, 0, 5) = 5
            pick(0, 0, 0) = 0
            none(0, 0, 0) = 1
            pick(0, 0, 0) = 100
            put(0, 0, 3, 1, -200) = 0
            put(0, 0, 4, 1, -200) = 0
            pick(0, 0, 0) = 300
            endless(0, 0, 4, false) = 1
            pick(0, 0, 0) = 400
            fill(0, 0, 0, 5, -5, 0, -1) = 5
            pick(0, 0, 0) = 0
            endless(0, 0, 0, true) = 1
            pick(0, 0, 0) = 100
            none(0, 0, 0) = 1
            none(0, 0, 1) = 1
            none(0, 0, 2) = 1
            endless(0, 0, 3, true) = 1
            endless(0, 0, 4, true) = 1
            pick(0, 0, 0) = 300
            none(0, 0, 3) = 1
            none(0, 0, 4) = 1
            pick(0, 0, 0) ! 9
            doubles(0, 1, 0) = 0
            pick(0, 0, 1) ! 9
            """);
    }

    private static void layers() {
        Script.run("Promise 18: layer", """
            layer(-1) ! 6
            layer(5) ! 6
            layer(0) = 0
            layer(1) = 1
            layer(2) = 2
            layer(3) = 3
            layer(4) = 4
            layer(0) = 5
            9 * layer(4)
            tell(15) ! 1
            layer(4) = 15
            tell(15) = 4000
            layer(0) ! 6
            tell(16) ! 2
            tell(-1) ! 2
            undo() = 1
            layer(2) = 15
            tell(15) = 2000
            """);
    }

    private static void tops() {
        Script.run("Promise 19: lay", """
            lay(16, 24, -2) ! 6
            lay(16, 24, 10000001) ! 6
            lay(16, 24, -2147483648) ! 6
            lay(16, 24, 5) ! 2
            lay(-1, 24, 5) ! 2
            lay(0, 24, 5) ! 1
            layer(0) = 0
            layer(1) = 1
            layer(2) = 2
            layer(4) = 3
            lay(0, 24, 5) ! 2
            lay(0, -1, 5) ! 2
            lay(0, 0, 5) ! 1
            hole(0, 0) = 0
            hole(1, 0) = 1
            lay(0, 0, 10000000) = 10000000
            lay(0, 0, 0) = 0
            top(0, 0) = 0
            lay(3, 0, 100) = 100
            lay(1, 0, 101) ! 7
            lay(1, 0, 100) = 100
            lay(0, 0, 101) ! 7
            lay(0, 0, 100) = 100
            lay(3, 0, 99) ! 7
            lay(2, 0, 10000000) = 10000000        # FAULTS stand in no ORDER
            lay(2, 0, 0) = 0
            lay(1, 0, -1) = -1
            status() = 0
            top(1, 0) ! 9
            lay(1, 0, -1) = -1
            lay(3, 0, 100) = 100
            lay(3, 0, 99) ! 7                      # of 0, past the one that has none
            lay(0, 0, -1) = -1
            lay(3, 0, 99) = 99
            lay(0, 1, 500) = 500                   # each HOLE for itself
            undo() = 1
            top(0, 1) ! 9
            undo() = 1
            top(3, 0) = 100
            """);
        Script.run("Promise 19: TOPS of a SHIFTED one stay", """
            layer(2) = 0
            layer(0) = 1
            hole(0, 0) = 0
            shift(0) = 0
            lay(0, 0, 5) ! 10
            lay(0, 0, -1) ! 10
            lay(0, 1, 5) ! 1
            lay(0, 0, -2) ! 6
            lay(1, 0, 5) = 5
            back(0) = 0
            lay(0, 0, 5) = 5
            """);
    }

    private static void picks() {
        Script.run("Promises 20 and 53: pick, ran", """
            pick(16, 24, 6) ! 2
            pick(0, 24, 6) ! 1
            layer(4) = 0
            layer(2) = 1
            layer(0) = 2
            layer(1) = 3
            layer(3) = 4
            pick(0, 24, 6) ! 2
            pick(0, 0, 6) ! 1
            hole(0, 0) = 0
            pick(0, 0, 6) ! 2
            pick(0, 0, 0) ! 1
            shift(1) = 0
            pick(1, 0, 0) ! 1
            doubles(0, 0, 0) = 0
            pick(1, 0, 0) ! 10
            ran(0) = 0
            ran(1) = 0
            ran(2) = 0
            ran(3) = 0
            ran(4) = 0
            pick(0, 0, 0) ! 9
            ran(4) = 1                             # looked for, and none found
            status() = 9
            doubles(0, 0, 300) = 300
            start(0, 0, 10000000, 1) = 1
            pick(0, 0, 0) = 10000000
            put(0, 0, 1, 1, 0) = 1
            pick(0, 0, 0) ! 6
            ran(4) = 3
            top(0, 0) = 10000000
            start(0, 0, 7010000, 10000) = 1
            put(0, 0, 299, 2, 0) = 2
            pick(0, 0, 0) = 10000000
            lay(2, 0, 10000000) = 10000000
            start(0, 0, 7009999, 10000) = 1
            pick(0, 0, 0) = 9999999
            pick(2, 0, 0) ! 9
            window(2, 0, 1, true) = 1
            pick(2, 0, 0) = 9999999
            lay(2, 0, 10000000) = 10000000
            start(0, 0, 0, 1) = 1
            pick(2, 0, 0) ! 7
            ran(0) = 3
            lay(0, 0, -1) = -1
            pick(2, 0, 0) = 299
            pick(4, 0, 0) = 299
            pick(3, 0, 0) = 299
            ran(0) = 4
            ran(1) = 1
            ran(2) = 0
            ran(3) = 1
            """);
        Script.run("Promise 20: ORDER, and its count", """
            layer(0) = 0
            layer(4) = 1
            layer(2) = 2
            hole(0, 0) = 0
            shorts(0, 0, 3) = 3
            lay(0, 0, 50) = 50
            pick(1, 0, 0) ! 7
            ran(4) = 1
            top(1, 0) ! 9
            pick(2, 0, 0) = 100
            put(0, 0, 1, 5, 0) = 5
            pick(1, 0, 0) = 100
            ran(4) = 2
            ran(2) = 1
            undo() = 1
            ran(4) = 2                             # undo() leaves it
            top(1, 0) ! 9
            ran(5) = 0
            ran(-1) = 0
            ran(2147483647) = 0
            ran(3) = 0
            status() = 9
            """);
    }

    private static void faults() {
        Script.run("Promises 21, 22, 36, 37: line, throwOf, side, isShifted", """
            line(16, 1001, 0, 0) ! 6
            line(16, 0, -1001, 0) ! 6
            line(16, 0, 0, 2000001) ! 6
            line(16, 0, 0, -2000001) ! 6
            line(16, 1000, -1000, 2000000) ! 2
            line(0, 1000, -1000, 2000000) ! 1
            throwOf(16, 100001) ! 6
            throwOf(16, -100001) ! 6
            throwOf(16, -100000) ! 2
            throwOf(0, 100000) ! 1
            side(16, 24) ! 2
            side(0, 24) ! 1
            isShifted(16) ! 2
            isShifted(-1) ! 2
            isShifted(0) ! 1
            layer(0) = 0
            layer(1) = 1
            layer(4) = 2
            layer(2) = 3
            layer(3) = 4
            line(0, 0, 0, 0) ! 3
            line(1, 0, 0, 0) ! 3
            line(2, 0, 0, 0) ! 3
            throwOf(0, 0) ! 3
            throwOf(1, 0) ! 3
            throwOf(2, 0) ! 3
            side(0, 24) ! 3
            isShifted(0) ! 3
            isShifted(1) ! 3
            isShifted(2) ! 3
            side(3, 24) ! 2
            side(3, 0) ! 1
            hole(1000, 1000) = 0
            hole(-1000, 1000) = 1
            side(3, 0) = 0
            line(3, 1000, 1000, 2000000) = 1
            side(3, 0) = 0
            side(3, 1) = -1
            status() = 0
            line(3, 1000, 1000, 1999999) = 1
            side(3, 0) = 1
            line(3, 1000, -1000, -2000000) = 1
            side(3, 1) = 0
            side(3, 0) = 1
            undo() = 1
            undo() = 1
            side(3, 0) = 0
            side(3, 1) = -1
            throwOf(4, -1) = -1
            status() = 0
            throwOf(4, 100000) = 100000
            isShifted(4) = 0
            shift(4) = 0
            isShifted(4) = 1
            line(4, 0, 0, 0) ! 10
            line(4, 1001, 0, 0) ! 6
            throwOf(4, 0) ! 10
            throwOf(4, 100001) ! 6
            line(3, 0, 0, 0) = 1
            back(4) = 0
            line(4, 0, 0, 0) = 1
            """);
    }

    private static void shifts() {
        Script.run("Promises 23, 24: shift, back of a Fault", """
            shift(16) ! 2
            back(16) ! 2
            shift(0) ! 1
            back(0) ! 1
            layer(0) = 0
            layer(2) = 1
            layer(1) = 2
            layer(4) = 3
            layer(3) = 4
            shift(0) ! 3
            back(0) ! 3
            shift(3) ! 3
            back(2) ! 3
            back(1) ! 10
            hole(5, 0) = 0
            hole(-5, 0) = 1
            hole(0, 7) = 2
            hole(9, 9) = 3
            line(1, 1, 0, 0) = 1
            throwOf(1, 30) = 30
            lay(0, 0, 10) = 10
            lay(2, 0, 11) = 11
            lay(3, 0, 90) = 90
            lay(1, 0, 10) = 10
            lay(4, 0, 80) = 80
            lay(0, 1, 40) = 40
            lay(1, 1, 0) = 0
            lay(3, 2, 40) = 40
            lay(1, 2, 1) = 1
            lay(3, 3, 40) = 40
            same before
            shift(1) = 4                # 11, 90 in HOLE 0, 40 in 1 and in 2 (by nothing)
            top(0, 0) = 10              # not greater
            top(2, 0) = 41
            top(3, 0) = 120
            top(4, 0) = 80              # no BED
            top(1, 0) = 10
            top(0, 1) = 40
            top(3, 2) = 40
            top(3, 3) = 40              # the FAULT has no TOP there
            shift(1) ! 10
            isShifted(1) = 1
            back(1) = 4
            same before
            back(1) ! 10
            undo() = 1
            top(3, 0) = 120
            isShifted(1) = 1
            undo() = 1
            same before
            throwOf(1, -1) = -1
            shift(1) ! 7                # 11 would be 10
            isShifted(1) = 0
            lay(2, 0, 12) = 12
            shift(1) = 4
            top(2, 0) = 11
            lay(2, 0, 10) = 10          # no longer greater than F
            back(1) = 3
            top(2, 0) = 10
            top(3, 0) = 90
            """);
        Script.run("Promises 23, 24: what would be too deep, or no longer greater", """
            layer(2) = 0
            layer(0) = 1
            hole(1, 0) = 0
            hole(2, 0) = 1
            line(0, 1, 0, 0) = 1
            throwOf(0, 100000) = 100000
            lay(0, 0, 500) = 500
            lay(0, 1, 500) = 500
            lay(1, 0, 9900000) = 9900000
            lay(1, 1, 9900001) = 9900001
            shift(0) ! 7
            top(1, 0) = 9900000         # nothing is moved
            lay(1, 1, 9900000) = 9900000
            shift(0) = 2
            top(1, 0) = 10000000
            lay(1, 0, 100500) = 100500
            back(0) ! 7                 # 500 would not be greater than 500
            isShifted(0) = 1
            top(1, 1) = 10000000
            lay(1, 0, 100501) = 100501
            back(0) = 2
            top(1, 0) = 501
            top(1, 1) = 9900000
            throwOf(0, -100000) = -100000
            lay(1, 0, 100501) = 100501
            shift(0) = 2
            top(1, 0) = 501
            lay(1, 0, 9900001) = 9900001
            back(0) ! 7
            lay(1, 0, 500) = 500
            back(0) = 1
            """);
        Script.run("3 LAYERS: LINE and THROW at first, and the first LAYER", """
            layer(0) = 0
            layer(3) = 1
            hole(1, 0) = 0
            side(1, 0) = 0
            line(1, 1, 0, 0) = 1
            side(1, 0) = 1
            lay(0, 0, 10000000) = 10000000
            lay(1, 0, 9) = 9
            shift(1) = 1
            top(0, 0) = 10000000
            back(1) = 1
            throwOf(1, 1) = 1
            shift(1) ! 7
            lay(0, 0, 9999999) = 9999999
            shift(1) = 1
            top(0, 0) = 10000000
            """);
        Script.run("Promises 23, 24: shift, back of a Cut", """
            layer(3) = 0
            layer(0) = 1
            layer(4) = 2
            hole(0, 5) = 0
            hole(0, -5) = 1
            hole(5, 0) = 2
            line(0, 0, 1, 0) = 1
            throwOf(0, 20) = 20
            lay(0, 0, 100) = 100
            lay(0, 1, 100) = 100
            lay(0, 2, 100) = 100
            lay(1, 0, 100) = 100
            lay(2, 0, 101) = 101
            lay(1, 1, 120) = 120
            lay(2, 1, 121) = 121
            lay(2, 2, 101) = 101
            shift(0) ! 7                # 120 - 20 is not greater than 100
            lay(1, 1, 121) = 121
            same before
            shift(0) = 4
            top(1, 0) = 100
            top(2, 0) = 121
            top(1, 1) = 101
            top(2, 1) = 101
            top(2, 2) = 101
            back(0) = 4
            same before
            throwOf(0, -20) = -20
            shift(0) ! 7                # 101 - 20
            lay(2, 0, 121) = 121
            shift(0) = 4
            top(2, 0) = 101
            top(1, 1) = 141
            """);
    }

    private static void told() {
        Script.run("Promises 34, 35: top, find", """
            top(16, 24) ! 2
            top(-1, 24) ! 2
            top(0, 24) ! 1
            find(16) ! 2
            find(0) ! 1
            layer(4) = 0
            top(0, 24) ! 2
            top(0, 0) ! 1
            find(0) ! 9
            hole(0, 0) = 0
            hole(1, 0) = 1
            hole(2, 0) = 2
            top(0, 0) ! 9
            find(0) ! 9
            lay(0, 2, 10000000) = 10000000
            top(0, 2) = 10000000
            find(0) = 2
            lay(0, 1, 7) = 7
            find(0) = 1
            lay(0, 2, 7) = 7
            find(0) = 1
            lay(0, 2, 0) = 0
            find(0) = 2
            lay(0, 0, 0) = 0
            find(0) = 0
            """);
        Script.run("Promises 38, 39: tell, drift", """
            tell(16) ! 2
            tell(-1) ! 2
            tell(0) ! 1
            drift(24, 24) ! 2
            drift(0, 24) ! 1
            hole(0, 0) = 0
            drift(0, 24) ! 2
            drift(0, 1) ! 1
            hole(1, 0) = 1
            drift(0, 1) = 0
            layer(0) = 0
            layer(1) = 1
            layer(2) = 2
            layer(3) = 3
            layer(4) = 4
            tell(0) = 0
            tell(1) = 1500
            tell(2) = 2000
            tell(3) = 3000
            tell(4) = 4000
            lay(0, 0, 1) = 1
            lay(1, 0, 20) = 20
            lay(2, 0, 3) = 3
            lay(3, 0, 4) = 4
            lay(4, 0, 5000) = 5000
            drift(0, 1) = 0
            lay(4, 1, 300) = 300
            drift(0, 1) = -23500
            lay(2, 1, 777) = 777
            lay(3, 1, 777) = 777
            drift(0, 1) = -23500
            lay(1, 1, 50) = 50
            drift(0, 1) = -23440
            drift(1, 0) = 23440
            lay(0, 1, 1) = 1
            drift(0, 1) = -23440
            drift(1, 1) = 0
            tell(0) = 2
            tell(1) = 1502
            tell(4) = 4002
            lay(4, 1, 10000000) = 10000000
            drift(0, 1) = 49975060
            lay(0, 1, 31) = 31
            drift(0, 1) = 49975120
            drift(1, 0) = -49975120
            10 * layer(4)
            drift(1, 0) = -49975120
            layer(0) = 15
            drift(1, 0) = -49975120
            lay(15, 0, 10000000) = 10000000
            lay(15, 1, 10000000) = 10000000
            lay(15, 0, 9000000) = 9000000
            drift(1, 0) = -51975120
            find(15) = 0
            tell(15) = 2
            """);
    }
}
