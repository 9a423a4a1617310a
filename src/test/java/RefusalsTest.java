/**
 * "Calls answer, the first of these that fits: UNKNOWN, OUTSIDE, STATE, LARGE, ROOM; then nothing
 * changes." Each refusing answer of each promise, the order of any two that fit at once, and that the
 * refused call leaves an object like a twin that never had it.
 */
public final class RefusalsTest {
    private static final int NONE = ConicRows.NONE;
    private static final int UNKNOWN = ConicRows.UNKNOWN;
    private static final int OUTSIDE = ConicRows.OUTSIDE;
    private static final int STATE = ConicRows.STATE;
    private static final int ROOM = ConicRows.ROOM;
    private static final int LARGE = ConicRows.LARGE;
    private static final int MIN = Integer.MIN_VALUE;
    private static final int MAX = Integer.MAX_VALUE;

    // 3, 4: the same; 0, 1, 5, 6: in line; 7, 8: their line is LARGE; 9: a number beyond 30.
    private static final int[][] POINTS = {{0, 0, 1}, {1, 0, 0}, {0, 1, 0}, {1, 1, 1}, {-2, -2, -2}, {2, 0, 1}, {3, 0, 1},
        {25, 1, 1}, {1, 0, -20}, {31, 1, 1}, {2, 3, 1}, {14, -4, -3}, {1, 0, -3}, {3, 2, 3}, {0, 1, -1}, {2, 0, -3},
        {1, -1, -1}, {1, 1, 0}};
    // 3, 4: the same; 5, 6: where they meet is LARGE.
    private static final int[][] LINES = {{0, 0, 1}, {1, 0, 0}, {0, 1, 0}, {1, 1, 1}, {-2, -2, -2}, {25, 1, 1}, {1, 0, -20},
        {6, 1, 2}};
    // 0, 3: the same; 1: two lines; 2: a line twice; 4: its centre, 5: its dual is LARGE; 6: the polar of
    // point 11, 7: the pole of line 7 is LARGE; 8 and 9 through point 12, 10 and 11 with -13 and 1 are
    // LARGE; 12: two lines that meet at a LARGE point.
    private static final int[][] CONICS = {{1, 0, 1, 0, 0, -1}, {0, 1, 0, 0, 0, 0}, {1, 0, 0, 0, 0, 0}, {-3, 0, -3, 0, 0, 3},
        {25, 1, -3, -1, 10, 0}, {0, 0, 5, -1, 21, -3}, {18, 0, 4, 1, 0, -1}, {0, 3, 3, -1, 3, 8}, {3, -1, 1, -1, -43, 5},
        {30, 9, -2, 4, -3, -1}, {39, 0, -6, 7, 0, 0}, {6, -2, -6, -1, 9, 1}, {25, 1, 0, -499, -20, -20}};
    private static final int[] SOME = {POINTS.length, LINES.length, CONICS.length};
    private static final int[] FULL = {60, 60, 60};

    private static int wrong = 0;

    private interface Call {
        long on(ConicRows x);
    }

    /** A call by one number that may be wrong, all others being right. */
    private interface CallBy {
        long on(ConicRows x, int n);
    }

    public static void main(String[] args) {
        promises2To4Given();
        promises2To4Room();
        promise5Count();
        promise6Number();
        promise7Join();
        promise8Meet();
        promise9On();
        promise10FiveUnknown();
        promise10FiveState();
        promise10FiveLargeAndRoom();
        promises11To13();
        promise14Polar();
        promise15Pole();
        promise16Centre();
        promise17Dual();
        promise18Member();
        promise19Through();
        promise20Cubic();
        promise21Cross();
        promise22Crossing();
        promise23Split();
        promise24Part();
        tellingCallsChangeNothing();
        refusedManyTimes();
        System.out.println(wrong == 0 ? "all answers are as due" : wrong + " answers are not as due");
        if (wrong != 0) {
            System.exit(1);
        }
    }

    private static void due(String call, long got, long want) {
        if (got != want) {
            wrong++;
            System.out.println(call + " answered " + got + ", due is " + want);
        }
    }

    /** An object that holds the rows above, repeated up to these sizes, a cross() and a split() of two each. */
    private static ConicRows make(int[] sizes) {
        ConicRows x = new ConicRows();
        for (int i = 0; i < sizes[0]; i++) {
            int[] p = POINTS[i % POINTS.length];
            x.point(p[0], p[1], p[2]);
        }
        for (int i = 0; i < sizes[1]; i++) {
            int[] l = LINES[i % LINES.length];
            x.line(l[0], l[1], l[2]);
        }
        for (int i = 0; i < sizes[2]; i++) {
            int[] q = CONICS[i % CONICS.length];
            x.conic(q[0], q[1], q[2], q[3], q[4], q[5]);
        }
        due("cross of the twins", x.cross(0, 1), 2);
        due("split of the twins", x.split(1), 2);
        return x;
    }

    private static void refused(String what, int[] sizes, Call call, long want) {
        // An object has 512 calls: a fresh one for each look at a part of it.
        for (int look = 0; look < 6; look++) {
            ConicRows x = make(sizes);
            due(what, call.on(x), want);
            dueLikeTwin(what, x, make(sizes), look);
        }
    }

    private static void dueLikeTwin(String what, ConicRows x, ConicRows twin, int look) {
        if (look < 2) {
            dueSameRows(what, x, twin, look, 0, 60);
        } else if (look < 4) {
            dueSameRows(what, x, twin, 2, look == 2 ? 0 : 30, look == 2 ? 30 : 60);
        } else if (look == 4) {
            dueSameFound(what, x, twin);
        } else {
            dueSameNext(what, x, twin);
        }
        for (int sort = 0; sort < 3; sort++) {
            due(what + ", then count(" + sort + ")", x.count(sort), twin.count(sort));
        }
    }

    private static void dueSameRows(String what, ConicRows x, ConicRows twin, int sort, int from, int to) {
        int width = sort == 2 ? 6 : 3;
        for (int i = from; i < to && i < twin.count(sort); i++) {
            for (int k = 0; k < width; k++) {
                due(what + ", then number(" + sort + ", " + i + ", " + k + ")", x.number(sort, i, k), twin.number(sort, i, k));
            }
        }
    }

    private static void dueSameFound(String what, ConicRows x, ConicRows twin) {
        for (int i = 0; i < 3; i++) {
            for (int k = 0; k < 3; k++) {
                due(what + ", then crossing(" + i + ", " + k + ")", x.crossing(i, k), twin.crossing(i, k));
                due(what + ", then part(" + i + ", " + k + ")", x.part(i, k), twin.part(i, k));
            }
        }
        due(what + ", then a crossing", x.crossing(0, 1), 1);
        due(what + ", then a part", x.part(1, 0), 1);
    }

    private static void dueSameNext(String what, ConicRows x, ConicRows twin) {
        due(what + ", then point()", x.point(7, 0, 9), twin.point(7, 0, 9));
        due(what + ", then line()", x.line(0, 7, 9), twin.line(0, 7, 9));
        due(what + ", then conic()", x.conic(0, 7, 0, 0, 0, 9), twin.conic(0, 7, 0, 0, 0, 9));
        for (int sort = 0; sort < 3; sort++) {
            int last = twin.count(sort) - 1;
            dueSameRows(what, x, twin, sort, last, last + 1);
        }
    }

    /** Numbers just beyond those that are kept, and such as would wrap round to one in an array. */
    private static int[] unknowns(int size) {
        return new int[] {-1, size, size + 1, 60, 61, 256, 65536, 1431655766, 715827883, 1 << 30, MIN, MIN + 1, -60, MAX};
    }

    private static void unknown(String what, int sort, CallBy call) {
        for (int[] sizes : new int[][] {SOME, FULL}) {
            for (int n : unknowns(sizes[sort])) {
                refused(what + " by " + n, sizes, x -> call.on(x, n), UNKNOWN);
            }
            due(what + " by the last that there is", call.on(make(sizes), sizes[sort] - 1) == UNKNOWN ? 1 : 0, 0);
            due(what + " by the first that there is", call.on(make(sizes), 0) == UNKNOWN ? 1 : 0, 0);
        }
        due(what + " of nothing", call.on(new ConicRows(), 0), UNKNOWN);
    }

    private static void outside(String what, int[] numbers, CallBy call) {
        for (int n : numbers) {
            refused(what + " " + n, SOME, x -> call.on(x, n), OUTSIDE);
            refused(what + " " + n + ", full", FULL, x -> call.on(x, n), OUTSIDE);
        }
    }

    /** "(-1000 to 1000 each) .. OUTSIDE: also all 0", before LARGE and before ROOM. */
    private static void promises2To4Given() {
        int[] beyond = {1001, -1001, 1002, 65536, MAX, MIN, MIN + 1};
        outside("point x", beyond, (x, n) -> x.point(n, 1, 1));
        outside("point y", beyond, (x, n) -> x.point(1, n, 1));
        outside("point z", beyond, (x, n) -> x.point(1, 1, n));
        outside("point alone", beyond, (x, n) -> x.point(n, 0, 0));
        outside("line a", beyond, (x, n) -> x.line(n, 1, 1));
        outside("line b", beyond, (x, n) -> x.line(1, n, 1));
        outside("line c", beyond, (x, n) -> x.line(1, 1, n));
        outside("line alone", beyond, (x, n) -> x.line(0, 0, n));
        outside("conic a", beyond, (x, n) -> x.conic(n, 1, 1, 1, 1, 1));
        outside("conic b", beyond, (x, n) -> x.conic(1, n, 1, 1, 1, 1));
        outside("conic c", beyond, (x, n) -> x.conic(1, 1, n, 1, 1, 1));
        outside("conic d", beyond, (x, n) -> x.conic(1, 1, 1, n, 1, 1));
        outside("conic e", beyond, (x, n) -> x.conic(1, 1, 1, 1, n, 1));
        outside("conic f", beyond, (x, n) -> x.conic(1, 1, 1, 1, 1, n));
        outside("conic alone", beyond, (x, n) -> x.conic(0, n, 0, 0, 0, 0));
        int[] allZero = {0};
        outside("point all", allZero, (x, n) -> x.point(n, n, n));
        outside("line all", allZero, (x, n) -> x.line(n, n, n));
        outside("conic all", allZero, (x, n) -> x.conic(n, n, n, n, n, n));
        outside("point, the others LARGE", beyond, (x, n) -> x.point(999, n, 1));
        outside("line, the others LARGE", beyond, (x, n) -> x.line(n, 999, 1));
        outside("conic, the others LARGE", beyond, (x, n) -> x.conic(999, 1, 1, 1, 1, n));
    }

    private static void promises2To4Room() {
        for (int n : new int[] {501, 999, 1000, -501, -999, -1000}) {
            for (int[] sizes : new int[][] {SOME, FULL}) {
                refused("point LARGE " + n, sizes, x -> x.point(1, n, 1), LARGE);
                refused("line LARGE " + n, sizes, x -> x.line(1, 1, n), LARGE);
                refused("conic LARGE " + n, sizes, x -> x.conic(1, 0, 0, 0, n, 1), LARGE);
            }
        }
        refused("point ROOM", FULL, x -> x.point(3, 5, 7), ROOM);
        refused("point ROOM, at the bound", FULL, x -> x.point(1000, -1000, 998), ROOM);
        refused("point ROOM, there already", FULL, x -> x.point(1, 1, 1), ROOM);
        refused("line ROOM", FULL, x -> x.line(3, 5, 7), ROOM);
        refused("line ROOM, there already", FULL, x -> x.line(1, 1, 1), ROOM);
        refused("conic ROOM", FULL, x -> x.conic(3, 5, 7, 2, 4, 6), ROOM);
        refused("conic ROOM, there already", FULL, x -> x.conic(1, 0, 1, 0, 0, -1), ROOM);
    }

    private static void promise5Count() {
        outside("count", new int[] {-1, 3, 4, MIN, MAX, 65536, -3}, (x, n) -> x.count(n));
    }

    /** "OUTSIDE: the sort (first here); UNKNOWN; OUTSIDE: k." */
    private static void promise6Number() {
        int[] sorts = {-1, 3, 4, MIN, MAX};
        outside("number: the sort", sorts, (x, n) -> x.number(n, 0, 0));
        outside("number: the sort before UNKNOWN", sorts, (x, n) -> x.number(n, 99, 0));
        outside("number: the sort, all wrong", sorts, (x, n) -> x.number(n, -1, -1));
        for (int sort = 0; sort < 3; sort++) {
            int s = sort;
            int width = sort == 2 ? 6 : 3;
            unknown("number of sort " + s, s, (x, n) -> x.number(s, n, 0));
            unknown("number of sort " + s + ", UNKNOWN before k", s, (x, n) -> x.number(s, n, n == 0 ? 0 : width));
            outside("number: k of sort " + s, new int[] {-1, width, width + 1, MIN, MAX}, (x, n) -> x.number(s, 0, n));
            outside("number: k of the last of sort " + s, new int[] {-1, width}, (x, n) -> x.number(s, x.count(s) - 1, n));
        }
    }

    /** "UNKNOWN; STATE: they are the same; LARGE; ROOM." */
    private static void promise7Join() {
        unknown("join, first", 0, (x, n) -> x.join(n, 3));
        unknown("join, second", 0, (x, n) -> x.join(3, n));
        unknown("join, UNKNOWN before STATE", 0, (x, n) -> x.join(n, n));
        for (int[] sizes : new int[][] {SOME, FULL}) {
            refused("join of one", sizes, x -> x.join(7, 7), STATE);
            refused("join of the same", sizes, x -> x.join(3, 4), STATE);
            refused("join of the same, turned", sizes, x -> x.join(4, 3), STATE);
            refused("join LARGE", sizes, x -> x.join(7, 8), LARGE);
            refused("join LARGE, turned", sizes, x -> x.join(8, 7), LARGE);
        }
        refused("join ROOM", FULL, x -> x.join(0, 1), ROOM);
    }

    /** "UNKNOWN; STATE: they are the same; LARGE; ROOM." */
    private static void promise8Meet() {
        unknown("meet, first", 1, (x, n) -> x.meet(n, 3));
        unknown("meet, second", 1, (x, n) -> x.meet(3, n));
        unknown("meet, UNKNOWN before STATE", 1, (x, n) -> x.meet(n, n));
        for (int[] sizes : new int[][] {SOME, FULL}) {
            refused("meet of one", sizes, x -> x.meet(5, 5), STATE);
            refused("meet of the same", sizes, x -> x.meet(3, 4), STATE);
            refused("meet of the same, turned", sizes, x -> x.meet(4, 3), STATE);
            refused("meet LARGE", sizes, x -> x.meet(5, 6), LARGE);
            refused("meet LARGE, turned", sizes, x -> x.meet(6, 5), LARGE);
        }
        refused("meet ROOM", FULL, x -> x.meet(0, 1), ROOM);
    }

    /** "OUTSIDE: the sort (first here); UNKNOWN." */
    private static void promise9On() {
        int[] sorts = {0, 3, -1, -2, 4, MIN, MAX};
        outside("on: the sort", sorts, (x, n) -> x.on(n, 0, 0));
        outside("on: the sort before UNKNOWN", sorts, (x, n) -> x.on(n, 99, -1));
        unknown("on: the line", 1, (x, n) -> x.on(1, n, 0));
        unknown("on: the conic", 2, (x, n) -> x.on(2, n, 0));
        unknown("on a line: the point", 0, (x, n) -> x.on(1, 0, n));
        unknown("on a conic: the point", 0, (x, n) -> x.on(2, 0, n));
        // A line has no number that only a conic has, nor a conic one that only a point has.
        refused("on: no such line", SOME, x -> x.on(1, LINES.length, 0), UNKNOWN);
        refused("on: no such conic", SOME, x -> x.on(2, CONICS.length, 0), UNKNOWN);
        due("on: such a conic", make(SOME).on(2, LINES.length, 0) == UNKNOWN ? 1 : 0, 0);
    }

    private static void promise10FiveUnknown() {
        unknown("five p", 0, (x, n) -> x.five(n, 13, 14, 15, 16));
        unknown("five q", 0, (x, n) -> x.five(13, n, 14, 15, 16));
        unknown("five r", 0, (x, n) -> x.five(13, 14, n, 15, 16));
        unknown("five s", 0, (x, n) -> x.five(13, 14, 15, n, 16));
        unknown("five t", 0, (x, n) -> x.five(13, 14, 15, 16, n));
        unknown("five, UNKNOWN before STATE", 0, (x, n) -> x.five(n, n, n, n, n));
        unknown("five, UNKNOWN before STATE of the others", 0, (x, n) -> x.five(0, 1, 5, 6, n));
        unknown("five, UNKNOWN before LARGE", 0, (x, n) -> x.five(9, 2, 3, 10, n));
    }

    /** "STATE: there are several such (two of the POINTS are the same, or some four are ON one LINE)". */
    private static void promise10FiveState() {
        for (int[] sizes : new int[][] {SOME, FULL}) {
            for (int i = 0; i < 5; i++) {
                for (int j = 0; j < 5; j++) {
                    if (i != j) {
                        int[] p = {13, 14, 15, 16, 17};
                        p[i] = 3;
                        p[j] = 4;
                        refused("five: the same at " + i + ", " + j, sizes, x -> x.five(p[0], p[1], p[2], p[3], p[4]), STATE);
                        p[i] = p[j];
                        refused("five: one twice at " + i + ", " + j, sizes, x -> x.five(p[0], p[1], p[2], p[3], p[4]), STATE);
                        p[i] = 9;
                        p[j] = 9;
                        refused("five: STATE before LARGE", sizes, x -> x.five(p[0], p[1], p[2], p[3], p[4]), STATE);
                    }
                }
                for (int other : new int[] {10, 9, 12}) {
                    int[] p = {0, 1, 5, 6, 6};
                    p[4] = p[i];
                    p[i] = other;
                    // Point 12 is on the line of the four as well: then all five are.
                    refused("five: four in line but for " + i, sizes, x -> x.five(p[0], p[1], p[2], p[3], p[4]), STATE);
                }
            }
        }
    }

    /** "LARGE: also if one of the POINTS has a number beyond -30 to 30; ROOM." */
    private static void promise10FiveLargeAndRoom() {
        for (int[] sizes : new int[][] {SOME, FULL}) {
            refused("five: LARGE numbers", sizes, x -> x.five(13, 14, 15, 16, 17), LARGE);
            refused("five: a number of 31", sizes, x -> x.five(9, 0, 1, 2, 10), LARGE);
            refused("five: a number of 31, last", sizes, x -> x.five(10, 2, 1, 0, 9), LARGE);
        }
        refused("five: ROOM", FULL, x -> x.five(0, 1, 2, 10, 16), ROOM);
        due("five: not LARGE", make(SOME).five(0, 1, 2, 10, 16), CONICS.length);
    }

    private static void promises11To13() {
        unknown("kind", 2, (x, n) -> x.kind(n));
        unknown("told DET", 2, (x, n) -> x.told(n, 0));
        unknown("told DISC", 2, (x, n) -> x.told(n, 1));
        unknown("told, UNKNOWN before OUTSIDE", 2, (x, n) -> x.told(n, 2));
        unknown("told, UNKNOWN before OUTSIDE", 2, (x, n) -> x.told(n, -1));
        outside("told: what", new int[] {-1, 2, 3, MIN, MAX}, (x, n) -> x.told(0, n));
        unknown("round", 2, (x, n) -> x.round(n));
    }

    /** "UNKNOWN; STATE: that is 0 throughout; LARGE; ROOM." */
    private static void promise14Polar() {
        unknown("polar: the conic", 2, (x, n) -> x.polar(n, 10));
        unknown("polar: the point", 0, (x, n) -> x.polar(0, n));
        unknown("polar: UNKNOWN before STATE", 0, (x, n) -> x.polar(1, n));
        for (int[] sizes : new int[][] {SOME, FULL}) {
            refused("polar where two lines meet", sizes, x -> x.polar(1, 0), STATE);
            refused("polar on a line twice", sizes, x -> x.polar(2, 0), STATE);
            refused("polar on a line twice, infinity", sizes, x -> x.polar(2, 2), STATE);
            refused("polar LARGE", sizes, x -> x.polar(6, 11), LARGE);
        }
        refused("polar ROOM", FULL, x -> x.polar(0, 10), ROOM);
    }

    /** "UNKNOWN; STATE: DET is 0; LARGE; ROOM." */
    private static void promise15Pole() {
        unknown("pole: the conic", 2, (x, n) -> x.pole(n, 0));
        unknown("pole: the line", 1, (x, n) -> x.pole(0, n));
        unknown("pole: UNKNOWN before STATE", 1, (x, n) -> x.pole(1, n));
        for (int[] sizes : new int[][] {SOME, FULL}) {
            refused("pole of two lines", sizes, x -> x.pole(1, 3), STATE);
            refused("pole of a line twice", sizes, x -> x.pole(2, 1), STATE);
            refused("pole: STATE before LARGE", sizes, x -> x.pole(12, 0), STATE);
            refused("pole LARGE", sizes, x -> x.pole(7, 7), LARGE);
        }
        refused("pole ROOM", FULL, x -> x.pole(0, 3), ROOM);
    }

    /** "UNKNOWN; STATE: that is 0 throughout; LARGE; ROOM." */
    private static void promise16Centre() {
        unknown("centre", 2, (x, n) -> x.centre(n));
        for (int[] sizes : new int[][] {SOME, FULL}) {
            refused("centre of a line twice", sizes, x -> x.centre(2), STATE);
            refused("centre LARGE", sizes, x -> x.centre(4), LARGE);
            refused("centre of two lines LARGE", sizes, x -> x.centre(12), LARGE);
        }
        refused("centre ROOM", FULL, x -> x.centre(0), ROOM);
        refused("centre of two lines ROOM", FULL, x -> x.centre(1), ROOM);
    }

    /** "UNKNOWN; STATE: DET is 0; LARGE; ROOM." */
    private static void promise17Dual() {
        unknown("dual", 2, (x, n) -> x.dual(n));
        for (int[] sizes : new int[][] {SOME, FULL}) {
            refused("dual of two lines", sizes, x -> x.dual(1), STATE);
            refused("dual of a line twice", sizes, x -> x.dual(2), STATE);
            refused("dual: STATE before LARGE", sizes, x -> x.dual(12), STATE);
            refused("dual LARGE", sizes, x -> x.dual(5), LARGE);
        }
        refused("dual ROOM", FULL, x -> x.dual(0), ROOM);
    }

    /** "(-500 to 500 each) .. UNKNOWN; OUTSIDE; STATE: that is 0 throughout; LARGE; ROOM." */
    private static void promise18Member() {
        unknown("member: the one", 2, (x, n) -> x.member(n, 1, 1, 2));
        unknown("member: the other", 2, (x, n) -> x.member(1, n, 1, 2));
        unknown("member: UNKNOWN before OUTSIDE", 2, (x, n) -> x.member(n, 0, 501, 1));
        unknown("member: UNKNOWN before OUTSIDE", 2, (x, n) -> x.member(0, n, 1, -501));
        unknown("member: UNKNOWN before STATE", 2, (x, n) -> x.member(n, n, 0, 0));
        int[] beyond = {501, -501, 502, 1000, 65536, MAX, MIN, MIN + 1};
        outside("member: u", beyond, (x, n) -> x.member(0, 1, n, 1));
        outside("member: v", beyond, (x, n) -> x.member(0, 1, 1, n));
        outside("member: u alone", beyond, (x, n) -> x.member(0, 1, n, 0));
        outside("member: v alone", beyond, (x, n) -> x.member(0, 1, 0, n));
        outside("member: OUTSIDE before STATE", beyond, (x, n) -> x.member(0, 3, n, -n));
        outside("member: OUTSIDE before LARGE", beyond, (x, n) -> x.member(10, 11, -13, n));
        for (int[] sizes : new int[][] {SOME, FULL}) {
            refused("member: none of both", sizes, x -> x.member(0, 1, 0, 0), STATE);
            refused("member: the same taken away", sizes, x -> x.member(0, 3, 500, -500), STATE);
            refused("member: itself taken away", sizes, x -> x.member(4, 4, -1, 1), STATE);
            refused("member LARGE", sizes, x -> x.member(10, 11, -13, 1), LARGE);
        }
        refused("member ROOM", FULL, x -> x.member(0, 1, 1, 1), ROOM);
    }

    /** "UNKNOWN; STATE: that is 0 throughout; LARGE; ROOM." */
    private static void promise19Through() {
        unknown("through: the one", 2, (x, n) -> x.through(n, 8, 10));
        unknown("through: the other", 2, (x, n) -> x.through(8, n, 10));
        unknown("through: the point", 0, (x, n) -> x.through(0, 8, n));
        unknown("through: UNKNOWN before STATE", 0, (x, n) -> x.through(0, 0, n));
        unknown("through: UNKNOWN before STATE", 2, (x, n) -> x.through(n, n, 0));
        for (int[] sizes : new int[][] {SOME, FULL}) {
            refused("through: on both", sizes, x -> x.through(1, 2, 0), STATE);
            refused("through: one twice", sizes, x -> x.through(0, 0, 10), STATE);
            refused("through: the same", sizes, x -> x.through(0, 3, 10), STATE);
            refused("through LARGE", sizes, x -> x.through(8, 9, 12), LARGE);
            refused("through LARGE, turned", sizes, x -> x.through(9, 8, 12), LARGE);
        }
        refused("through ROOM", FULL, x -> x.through(0, 1, 10), ROOM);
        refused("through ROOM, one alone", FULL, x -> x.through(0, 1, 0), ROOM);
    }

    private static void promise20Cubic() {
        for (int k = 0; k < 4; k++) {
            int number = k;
            unknown("cubic: the one", 2, (x, n) -> x.cubic(n, 0, number));
            unknown("cubic: the other", 2, (x, n) -> x.cubic(0, n, number));
        }
        unknown("cubic: UNKNOWN before OUTSIDE", 2, (x, n) -> x.cubic(n, 0, 4));
        unknown("cubic: UNKNOWN before OUTSIDE", 2, (x, n) -> x.cubic(0, n, -1));
        outside("cubic: k", new int[] {-1, 4, 5, MIN, MAX}, (x, n) -> x.cubic(0, 1, n));
    }

    /** "UNKNOWN": then crossing() still tells of the one before. */
    private static void promise21Cross() {
        unknown("cross: the conic", 2, (x, n) -> x.cross(n, 3));
        unknown("cross: the line", 1, (x, n) -> x.cross(0, n));
        unknown("cross: both", 1, (x, n) -> x.cross(n, n));
    }

    /** "NONE: there is none such, or before a cross(). OUTSIDE: k." */
    private static void promise22Crossing() {
        for (int i : new int[] {2, 3, -1, 60, MIN, MAX}) {
            refused("crossing " + i, SOME, x -> x.crossing(i, 0), NONE);
            refused("crossing " + i + ", OUTSIDE before NONE", SOME, x -> x.crossing(i, 3), OUTSIDE);
        }
        outside("crossing: k", new int[] {-1, 3, 4, MIN, MAX}, (x, n) -> x.crossing(0, n));
        outside("crossing: k of the second", new int[] {-1, 3}, (x, n) -> x.crossing(1, n));
        for (int i = -1; i < 3; i++) {
            for (int k = 0; k < 3; k++) {
                due("before a cross()", new ConicRows().crossing(i, k), NONE);
            }
            due("k 3 before a cross()", new ConicRows().crossing(i, 3), OUTSIDE);
            due("k -1 before a cross()", new ConicRows().crossing(i, -1), OUTSIDE);
        }
    }

    /** "UNKNOWN; STATE: DET is not 0": then part() still tells of the one before. */
    private static void promise23Split() {
        unknown("split", 2, (x, n) -> x.split(n));
        for (int[] sizes : new int[][] {SOME, FULL}) {
            for (int c : new int[] {0, 3, 4, 5, 6, 7, 8, 9, 10, 11}) {
                refused("split of " + c, sizes, x -> x.split(c), STATE);
            }
        }
    }

    /** "NONE; OUTSIDE: k." */
    private static void promise24Part() {
        for (int i : new int[] {2, 3, -1, 60, MIN, MAX}) {
            refused("part " + i, SOME, x -> x.part(i, 0), NONE);
            refused("part " + i + ", OUTSIDE before NONE", SOME, x -> x.part(i, 3), OUTSIDE);
        }
        outside("part: k", new int[] {-1, 3, 4, MIN, MAX}, (x, n) -> x.part(0, n));
        outside("part: k of the second", new int[] {-1, 3}, (x, n) -> x.part(1, n));
        for (int i = -1; i < 3; i++) {
            for (int k = 0; k < 3; k++) {
                due("before a split()", new ConicRows().part(i, k), NONE);
            }
            due("k 3 before a split()", new ConicRows().part(i, 3), OUTSIDE);
            due("k -1 before a split()", new ConicRows().part(i, -1), OUTSIDE);
        }
    }

    /** Calls that only tell something are no refusals, but they keep nothing either. */
    private static void tellingCallsChangeNothing() {
        refused("count", SOME, x -> x.count(2), CONICS.length);
        refused("number", SOME, x -> x.number(0, 7, 0), 25);
        refused("on a line", SOME, x -> x.on(1, 0, 1), 1);
        refused("on a conic", SOME, x -> x.on(2, 0, 0), 0);
        refused("kind", SOME, x -> x.kind(0), 0);
        refused("told", SOME, x -> x.told(0, 0), -4);
        refused("round", SOME, x -> x.round(0), 1);
        refused("cubic", SOME, x -> x.cubic(0, 1, 2), 1);
        refused("crossing", SOME, x -> x.crossing(1, 2), 1);
        refused("part", SOME, x -> x.part(1, 2), 0);
        refused("cross of the same", SOME, x -> x.cross(3, 1), 2);
        refused("split of the same", SOME, x -> x.split(1), 2);
    }

    /** However often it is refused: no trace is left. */
    private static void refusedManyTimes() {
        ConicRows x = make(SOME);
        for (int i = 0; i < 60; i++) {
            due("point", x.point(0, 0, 0), OUTSIDE);
            due("join", x.join(7, 8), LARGE);
            due("member", x.member(0, 3, 1, -1), STATE);
            due("split", x.split(0), STATE);
            due("cross", x.cross(0, 99), UNKNOWN);
        }
        for (int look = 4; look < 6; look++) {
            dueLikeTwin("many refused", x, make(SOME), look);
        }
    }
}
