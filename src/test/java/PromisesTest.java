/** The promises one by one: ordinary inputs, the edges that the document names, wrong inputs. */
public final class PromisesTest {
    private static final int NONE = ConicRows.NONE;
    private static final int UNKNOWN = ConicRows.UNKNOWN;
    private static final int OUTSIDE = ConicRows.OUTSIDE;
    private static final int STATE = ConicRows.STATE;
    private static final int ROOM = ConicRows.ROOM;
    private static final int LARGE = ConicRows.LARGE;
    private static final int[] WRONG_NUMBERS = {-1, Integer.MIN_VALUE, Integer.MAX_VALUE, 60, 61};

    private static int wrong = 0;

    public static void main(String[] args) {
        constants();
        promise1NewObject();
        promise2Point();
        promise3Line();
        promise4Conic();
        promise5Count();
        promise6Number();
        promise7Join();
        promise8Meet();
        promise9On();
        promise10Five();
        promise10FiveRefused();
        promise11Kind();
        promise12Told();
        promise13Round();
        promise14Polar();
        promise15Pole();
        promise16Centre();
        promise17Dual();
        promise18Member();
        promise19Through();
        promise20Cubic();
        promise21Cross();
        promise22Crossing();
        promise22CrossingLargeNumbers();
        promise23Split();
        promise24Part();
        unknownComesFirst();
        largeComesBeforeRoom();
        roomOfDerived();
        exampleOfReadme();
        System.out.println(wrong == 0 ? "all answers are as due" : wrong + " answers are not as due");
        if (wrong != 0) {
            System.exit(1);
        }
    }

    private static void due(String call, long got, long want) {
        if (got != want) {
            wrong++;
            System.out.println(call + " answered " + got + ", due is " + want);
        }
    }

    private static void dueNumbers(String what, ConicRows x, int sort, int i, int... want) {
        for (int k = 0; k < want.length; k++) {
            due(what + ": number(" + sort + ", " + i + ", " + k + ")", x.number(sort, i, k), want[k]);
        }
    }

    private static void dueCounts(String what, ConicRows x, int points, int lines, int conics) {
        due(what + ": points", x.count(0), points);
        due(what + ": lines", x.count(1), lines);
        due(what + ": conics", x.count(2), conics);
    }

    private static void dueCrossing(String what, ConicRows x, int i, long... want) {
        for (int k = 0; k < 3; k++) {
            due(what + ": crossing(" + i + ", " + k + ")", x.crossing(i, k), want.length == 0 ? NONE : want[k]);
        }
    }

    private static void duePart(String what, ConicRows x, int i, long... want) {
        for (int k = 0; k < 3; k++) {
            due(what + ": part(" + i + ", " + k + ")", x.part(i, k), want.length == 0 ? NONE : want[k]);
        }
    }

    private static ConicRows withConics(int[]... conics) {
        ConicRows x = new ConicRows();
        for (int i = 0; i < conics.length; i++) {
            int[] q = conics[i];
            due("conic " + i, x.conic(q[0], q[1], q[2], q[3], q[4], q[5]), i);
        }
        return x;
    }

    private static int[] q(int a, int b, int c, int d, int e, int f) {
        return new int[] {a, b, c, d, e, f};
    }

    private static void constants() {
        due("NONE", NONE, -1000001);
        due("UNKNOWN", UNKNOWN, -1000002);
        due("OUTSIDE", OUTSIDE, -1000003);
        due("STATE", STATE, -1000004);
        due("ROOM", ROOM, -1000005);
        due("LARGE", LARGE, -1000006);
    }

    private static void promise1NewObject() {
        ConicRows x = new ConicRows();
        dueCounts("new", x, 0, 0, 0);
        dueCrossing("new", x, 0);
        duePart("new", x, 0);
        x.point(1, 2, 3);
        dueCounts("another new one", new ConicRows(), 0, 0, 0);
    }

    private static void promise2Point() {
        ConicRows x = new ConicRows();
        due("point", x.point(2, 4, 6), 0);
        dueNumbers("divided", x, 0, 0, 1, 2, 3);
        due("same again", x.point(-1, -2, -3), 1);
        dueNumbers("sign", x, 0, 1, 1, 2, 3);
        due("infinity", x.point(0, -10, 0), 2);
        dueNumbers("first not 0", x, 0, 2, 0, 1, 0);
        due("third", x.point(0, 0, -1000), 3);
        dueNumbers("third", x, 0, 3, 0, 0, 1);
        due("signs stay", x.point(3, -6, 9), 4);
        dueNumbers("signs stay", x, 0, 4, 1, -2, 3);
        due("second first", x.point(0, -4, 6), 5);
        dueNumbers("second first", x, 0, 5, 0, 2, -3);
        due("bound", x.point(1000, -1000, 998), 6);
        dueNumbers("bound", x, 0, 6, 500, -500, 499);
        due("500", x.point(-500, 499, 500), 7);
        dueNumbers("500", x, 0, 7, 500, -499, -500);
        due("501", x.point(501, 1, 0), LARGE);
        due("-501", x.point(1, 0, -501), LARGE);
        due("999 in the middle", x.point(1, 999, 1), LARGE);
        due("all 0", x.point(0, 0, 0), OUTSIDE);
        int[] beyond = {1001, -1001, Integer.MAX_VALUE, Integer.MIN_VALUE};
        for (int n : beyond) {
            due("x " + n, x.point(n, 1, 1), OUTSIDE);
            due("y " + n, x.point(1, n, 1), OUTSIDE);
            due("z " + n, x.point(1, 1, n), OUTSIDE);
        }
        dueCounts("refused ones are not kept", x, 8, 0, 0);
        for (int i = 8; i < 60; i++) {
            due("point " + i, x.point(i, 1, 0), i);
        }
        due("room", x.point(1, 1, 1), ROOM);
        due("outside before room", x.point(0, 0, 0), OUTSIDE);
        due("large before room", x.point(501, 1, 1), LARGE);
        dueNumbers("last", x, 0, 59, 59, 1, 0);
        dueNumbers("first still", x, 0, 0, 1, 2, 3);
        dueCounts("full", x, 60, 0, 0);
    }

    private static void promise3Line() {
        ConicRows x = new ConicRows();
        due("line", x.line(-6, 9, 12), 0);
        dueNumbers("divided", x, 1, 0, 2, -3, -4);
        due("infinity", x.line(0, 0, -3), 1);
        dueNumbers("infinity", x, 1, 1, 0, 0, 1);
        due("all 0", x.line(0, 0, 0), OUTSIDE);
        due("1001", x.line(1, 1001, 1), OUTSIDE);
        due("-1001", x.line(-1001, 1, 1), OUTSIDE);
        due("501", x.line(1, 501, 1), LARGE);
        dueCounts("lines", x, 0, 2, 0);
        for (int i = 2; i < 60; i++) {
            due("line " + i, x.line(1, i, 0), i);
        }
        due("room", x.line(1, 1, 1), ROOM);
        due("large before room", x.line(1, 1, 501), LARGE);
        dueCounts("full", x, 0, 60, 0);
    }

    private static void promise4Conic() {
        ConicRows x = new ConicRows();
        due("conic", x.conic(-2, 4, -6, 8, -10, 12), 0);
        dueNumbers("divided", x, 2, 0, 1, -2, 3, -4, 5, -6);
        due("last alone", x.conic(0, 0, 0, 0, 0, -7), 1);
        dueNumbers("last alone", x, 2, 1, 0, 0, 0, 0, 0, 1);
        due("second first", x.conic(0, -3, 3, 0, 6, 9), 2);
        dueNumbers("second first", x, 2, 2, 0, 1, -1, 0, -2, -3);
        due("third first", x.conic(0, 0, -1, 1, 0, 0), 3);
        dueNumbers("third first", x, 2, 3, 0, 0, 1, -1, 0, 0);
        due("fourth first", x.conic(0, 0, 0, -1, 1, 0), 4);
        dueNumbers("fourth first", x, 2, 4, 0, 0, 0, 1, -1, 0);
        due("fifth first", x.conic(0, 0, 0, 0, -5, 10), 5);
        dueNumbers("fifth first", x, 2, 5, 0, 0, 0, 0, 1, -2);
        due("bound", x.conic(1000, 0, 0, 0, 0, -998), 6);
        dueNumbers("bound", x, 2, 6, 500, 0, 0, 0, 0, -499);
        due("all 0", x.conic(0, 0, 0, 0, 0, 0), OUTSIDE);
        for (int k = 0; k < 6; k++) {
            int[] n = {1, 1, 1, 1, 1, 1};
            n[k] = 1001;
            due("1001 at " + k, x.conic(n[0], n[1], n[2], n[3], n[4], n[5]), OUTSIDE);
            n[k] = -1001;
            due("-1001 at " + k, x.conic(n[0], n[1], n[2], n[3], n[4], n[5]), OUTSIDE);
            n[k] = 501;
            due("501 at " + k, x.conic(n[0], n[1], n[2], n[3], n[4], n[5]), LARGE);
            n[k] = -501;
            due("-501 at " + k, x.conic(n[0], n[1], n[2], n[3], n[4], n[5]), LARGE);
        }
        dueCounts("conics", x, 0, 0, 7);
        for (int i = 7; i < 60; i++) {
            due("conic " + i, x.conic(1, 0, i, 0, 0, 1), i);
        }
        due("room", x.conic(1, 0, 1, 0, 0, 1), ROOM);
        due("large before room", x.conic(1, 0, 1, 0, 0, 501), LARGE);
        dueNumbers("last", x, 2, 59, 1, 0, 59, 0, 0, 1);
        dueCounts("full", x, 0, 0, 60);
    }

    private static void promise5Count() {
        ConicRows x = new ConicRows();
        x.point(1, 0, 0);
        x.line(1, 0, 0);
        x.line(1, 0, 0);
        x.conic(1, 0, 0, 0, 0, 0);
        x.conic(1, 0, 0, 0, 0, 1);
        x.conic(1, 0, 0, 0, 0, 1);
        dueCounts("one, two, three", x, 1, 2, 3);
        due("sort -1", x.count(-1), OUTSIDE);
        due("sort 3", x.count(3), OUTSIDE);
        due("sort least", x.count(Integer.MIN_VALUE), OUTSIDE);
    }

    private static void promise6Number() {
        ConicRows x = new ConicRows();
        x.point(7, 8, 9);
        x.line(1, 2, 5);
        x.conic(1, 2, 3, 4, 5, 6);
        dueNumbers("point", x, 0, 0, 7, 8, 9);
        dueNumbers("line", x, 1, 0, 1, 2, 5);
        dueNumbers("conic", x, 2, 0, 1, 2, 3, 4, 5, 6);
        due("k 3 of a point", x.number(0, 0, 3), OUTSIDE);
        due("k 3 of a line", x.number(1, 0, 3), OUTSIDE);
        due("k 6 of a conic", x.number(2, 0, 6), OUTSIDE);
        due("k -1", x.number(2, 0, -1), OUTSIDE);
        due("i 1", x.number(0, 1, 0), UNKNOWN);
        due("i -1", x.number(1, -1, 0), UNKNOWN);
        due("i before k", x.number(2, 1, 6), UNKNOWN);
        due("sort before i", x.number(3, 1, 0), OUTSIDE);
        due("sort -1", x.number(-1, 0, 0), OUTSIDE);
    }

    private static void promise7Join() {
        ConicRows x = new ConicRows();
        x.point(0, 0, 1);
        x.point(2, 3, 1);
        x.point(1, 0, 0);
        x.point(0, 1, 0);
        x.point(4, 6, 2);
        x.point(500, -499, 1);
        due("ordinary", x.join(0, 1), 0);
        dueNumbers("ordinary", x, 1, 0, 3, -2, 0);
        due("other order", x.join(1, 0), 1);
        dueNumbers("other order", x, 1, 1, 3, -2, 0);
        due("infinity", x.join(3, 2), 2);
        dueNumbers("infinity", x, 1, 2, 0, 0, 1);
        due("to infinity", x.join(1, 2), 3);
        dueNumbers("to infinity", x, 1, 3, 0, 1, -3);
        due("same number", x.join(1, 1), STATE);
        due("same point", x.join(1, 4), STATE);
        due("large", x.join(1, 5), LARGE);
        due("unknown first", x.join(6, 1), UNKNOWN);
        due("unknown second", x.join(1, 6), UNKNOWN);
        due("unknown both", x.join(-1, -1), UNKNOWN);
        dueCounts("join", x, 6, 4, 0);
    }

    private static void promise8Meet() {
        ConicRows x = new ConicRows();
        x.line(1, 0, -2);
        x.line(0, 1, -3);
        x.line(1, 0, 5);
        x.line(0, 0, 1);
        x.line(-2, 0, 4);
        x.line(500, 499, 3);
        due("ordinary", x.meet(0, 1), 0);
        dueNumbers("ordinary", x, 0, 0, 2, 3, 1);
        due("side by side", x.meet(2, 0), 1);
        dueNumbers("side by side", x, 0, 1, 0, 1, 0);
        due("with infinity", x.meet(1, 3), 2);
        dueNumbers("with infinity", x, 0, 2, 1, 0, 0);
        due("same number", x.meet(3, 3), STATE);
        due("same line", x.meet(0, 4), STATE);
        due("large", x.meet(0, 5), LARGE);
        due("unknown", x.meet(6, 0), UNKNOWN);
        due("unknown", x.meet(0, -1), UNKNOWN);
        dueCounts("meet", x, 3, 6, 0);
    }

    private static void promise9On() {
        ConicRows x = new ConicRows();
        x.point(3, 4, 5);
        x.point(3, 4, 6);
        x.point(500, -500, 499);
        x.line(4, -3, 0);
        x.line(1, 1, 0);
        x.conic(1, 0, 1, 0, 0, -1);
        x.conic(1, 2, 3, 4, 5, 6);
        x.conic(1, 2, 3, 4, 5, -23);
        x.point(1, 1, 1);
        x.point(0, 0, 1);
        x.conic(0, 0, 0, 1, 0, 0);
        due("on a line", x.on(1, 0, 0), 1);
        due("on a line, too", x.on(1, 0, 1), 1);
        due("not on a line", x.on(1, 1, 0), 0);
        due("on line of great numbers", x.on(1, 1, 2), 1);
        due("on the circle", x.on(2, 0, 0), 1);
        due("not on the circle", x.on(2, 0, 1), 0);
        due("not with all numbers", x.on(2, 1, 3), 0);
        due("all numbers but one", x.on(2, 2, 3), 0);
        due("origin", x.on(2, 3, 4), 1);
        due("sort 0 first", x.on(0, 99, 99), OUTSIDE);
        due("sort 3", x.on(3, 0, 0), OUTSIDE);
        due("sort -1", x.on(-1, 0, 0), OUTSIDE);
        due("line unknown", x.on(1, 2, 0), UNKNOWN);
        due("conic unknown", x.on(2, 4, 0), UNKNOWN);
        due("point unknown", x.on(1, 0, 5), UNKNOWN);
        due("point unknown", x.on(2, 0, -1), UNKNOWN);
        x.conic(1, 2, 3, 4, 5, -15);
        due("1 + 2 + 3 + 4 + 5 - 15", x.on(2, 4, 3), 1);
    }

    private static void promise10Five() {
        ConicRows x = new ConicRows();
        int[][] parabola = {{0, 0, 1}, {1, 1, 1}, {-1, 1, 1}, {2, 4, 1}, {0, 1, 0}};
        for (int[] p : parabola) {
            x.point(p[0], p[1], p[2]);
        }
        due("parabola, one at infinity", x.five(0, 1, 2, 3, 4), 0);
        dueNumbers("parabola", x, 2, 0, 1, 0, 0, 0, -1, 0);
        due("another order", x.five(4, 2, 0, 3, 1), 1);
        dueNumbers("another order", x, 2, 1, 1, 0, 0, 0, -1, 0);
        x.point(2, 0, 1);
        x.point(3, 0, 1);
        x.point(5, 7, 1);
        due("three in line: two lines", x.five(0, 5, 6, 1, 7), 2);
        dueNumbers("three in line", x, 2, 2, 0, 3, -2, 0, -1, 0);
        due("in line at the end", x.five(1, 7, 0, 5, 6), 3);
        dueNumbers("in line at the end", x, 2, 3, 0, 3, -2, 0, -1, 0);
        x.point(30, 1, 1);
        x.point(-30, 1, 1);
        x.point(30, -1, 1);
        x.point(-30, -1, 1);
        x.point(1, 30, 1);
        x.point(2, 15, 1);
        x.point(5, 6, 1);
        due("numbers of 30: x x - 900 y y", x.five(8, 9, 10, 11, 0), LARGE);
        due("numbers of 30: x y is 30", x.five(8, 11, 12, 13, 14), 4);
        dueNumbers("numbers of 30", x, 2, 4, 0, 1, 0, 0, 0, -30);
        dueCounts("five", x, 15, 0, 5);
    }

    private static void promise10FiveRefused() {
        ConicRows x = new ConicRows();
        int[][] points = {{0, 0, 1}, {1, 0, 1}, {2, 0, 1}, {3, 0, 1}, {1, 1, 1}, {2, 5, 1}, {-2, 0, -2},
            {29, 30, 1}, {30, 29, 7}, {31, 7, 1}, {499, 0, 1}, {7, -31, 1}, {3, 4, 31}, {30, -30, 1}};
        for (int[] p : points) {
            x.point(p[0], p[1], p[2]);
        }
        int[][] fourInLine = {{4, 0, 1, 2, 3}, {0, 4, 1, 2, 3}, {0, 1, 4, 2, 3}, {0, 1, 2, 4, 3}, {0, 1, 2, 3, 4}};
        for (int[] p : fourInLine) {
            due("four in line", x.five(p[0], p[1], p[2], p[3], p[4]), STATE);
        }
        due("two the same", x.five(0, 1, 4, 5, 0), STATE);
        due("two the same point", x.five(0, 1, 4, 5, 6), STATE);
        due("in the middle", x.five(0, 4, 4, 5, 7), STATE);
        due("large result", x.five(0, 4, 5, 7, 8), LARGE);
        due("31", x.five(0, 1, 4, 5, 9), LARGE);
        due("-31", x.five(11, 0, 1, 4, 5), LARGE);
        due("31 third", x.five(0, 1, 12, 4, 5), LARGE);
        due("state before large", x.five(0, 1, 2, 10, 4), STATE);
        due("state before large", x.five(9, 9, 1, 2, 4), STATE);
        for (int k = 0; k < 5; k++) {
            for (int n : WRONG_NUMBERS) {
                int[] p = {0, 1, 2, 3, 4};
                p[k] = n;
                due("unknown", x.five(p[0], p[1], p[2], p[3], p[4]), UNKNOWN);
            }
        }
        dueCounts("nothing was kept", x, 14, 0, 0);
    }

    private static void promise11Kind() {
        int[][] rows = {
            {0, 1, 0, 4, 0, 0, -4}, {0, 5, 4, 3, -2, 1, -6}, {1, 1, 0, 4, 0, 0, 4}, {1, 2, 1, 2, 0, 0, 1},
            {2, 1, 2, 1, 1, 0, 0}, {2, 0, 0, 1, -1, 0, 0}, {3, 1, 0, -1, 0, 0, 1}, {3, 0, 1, 0, 1, 1, 2},
            {4, 0, 1, 0, 0, 0, 0}, {4, 1, 0, -2, 0, 0, 0}, {5, 1, 0, 0, 0, 0, -2}, {5, 0, 0, 1, 0, 3, 0},
            {6, 1, -4, 4, 2, -4, 1}, {6, 0, 0, 1, 0, 0, 0}, {7, 1, 1, 1, 0, 0, 0}, {7, 1, 0, 1, -2, 0, 1},
            {8, 1, 2, 1, 0, 0, 1}, {8, 0, 0, 1, 0, 0, 7}, {9, 0, 0, 0, 1, 0, 0}, {9, 0, 0, 0, 0, 1, 5},
            {9, 0, 0, 0, 2, -3, 1}, {10, 0, 0, 0, 0, 0, 1}};
        ConicRows x = new ConicRows();
        for (int i = 0; i < rows.length; i++) {
            int[] r = rows[i];
            due("conic", x.conic(r[1], r[2], r[3], r[4], r[5], r[6]), i);
            due("kind of row " + i, x.kind(i), r[0]);
        }
        due("unknown", x.kind(rows.length), UNKNOWN);
        due("unknown", x.kind(-1), UNKNOWN);
    }

    private static void promise12Told() {
        ConicRows x = withConics(q(1, 2, 3, 4, 5, 6), q(500, 499, -500, 500, -500, -500), q(500, -499, 500, 499, 500, 500));
        due("DET", x.told(0, 0), 72 + 40 - 25 - 48 - 24);
        due("DISC", x.told(0, 1), 4 - 12);
        due("great DET", x.told(1, 0), 500000000L - 499L * 250000 - 125000000L + 125000000L + 500L * 499 * 499);
        due("great DISC", x.told(1, 1), 499 * 499 + 1000000);
        due("great DET", x.told(2, 0), 4 * 125000000L - 499L * 499 * 500 - 125000000L - 2 * (500L * 499 * 499));
        due("what 2", x.told(0, 2), OUTSIDE);
        due("what -1", x.told(0, -1), OUTSIDE);
        due("unknown before what", x.told(3, 2), UNKNOWN);
        due("unknown", x.told(-1, 0), UNKNOWN);
    }

    private static void promise13Round() {
        ConicRows x = withConics(q(2, 0, 2, 5, 7, 1), q(1, 1, 1, 0, 0, -1), q(1, 5, -1, 3, 3, 3), q(0, 1, 0, 0, 0, 0),
            q(0, 0, 0, 1, 1, 1), q(1, 0, 2, 0, 0, 0), q(3, 0, -3, 0, 0, 1), q(1, 0, 0, 0, 0, 0), q(0, 1, 1, 0, 0, 0));
        int[] want = {1, 0, 2, 2, 0, 0, 2, 0, 0};
        for (int i = 0; i < want.length; i++) {
            due("round(" + i + ")", x.round(i), want[i]);
        }
        due("unknown", x.round(9), UNKNOWN);
        due("unknown", x.round(-1), UNKNOWN);
    }

    private static void promise14Polar() {
        ConicRows x = withConics(q(1, 2, 3, 4, 5, 6), q(1, 0, 1, 0, 0, 0), q(500, 1, 499, 0, 0, 0));
        x.point(1, 10, 100);
        x.point(0, 0, 1);
        x.point(500, 499, 1);
        x.point(-1, 1, 1);
        due("large", x.polar(0, 0), LARGE);
        due("ordinary", x.polar(0, 3), 0);
        dueNumbers("ordinary", x, 1, 0, 4, 9, 13);
        due("origin", x.polar(0, 1), 1);
        dueNumbers("origin", x, 1, 1, 4, 5, 12);
        due("0 throughout", x.polar(1, 1), STATE);
        due("large", x.polar(2, 2), LARGE);
        due("conic unknown", x.polar(3, 0), UNKNOWN);
        due("point unknown", x.polar(0, 4), UNKNOWN);
        due("point unknown", x.polar(0, -1), UNKNOWN);
        dueCounts("polar", x, 4, 2, 3);
    }

    private static void promise15Pole() {
        ConicRows x = withConics(q(1, 2, 3, 4, 5, 6), q(1, 0, -1, 0, 0, 0), q(1, 0, 1, 0, 0, -1), q(1, 0, 0, 0, -1, 0),
            q(499, 0, 498, 0, 0, 497));
        x.line(4, 9, 13);
        x.line(4, 5, 12);
        x.line(0, 0, 1);
        x.line(3, 7, 2);
        due("pole of a polar", x.pole(0, 0), 0);
        dueNumbers("pole of a polar", x, 0, 0, 1, -1, -1);
        due("origin", x.pole(0, 1), 1);
        dueNumbers("origin", x, 0, 1, 0, 0, 1);
        due("DET 0", x.pole(1, 0), STATE);
        due("infinity, circle", x.pole(2, 2), 2);
        dueNumbers("infinity, circle", x, 0, 2, 0, 0, 1);
        due("infinity, parabola", x.pole(3, 2), 3);
        dueNumbers("infinity, parabola", x, 0, 3, 0, 1, 0);
        due("circle", x.pole(2, 3), 4);
        dueNumbers("circle", x, 0, 4, 3, 7, -2);
        due("large", x.pole(4, 3), LARGE);
        due("unknown conic", x.pole(5, 0), UNKNOWN);
        due("unknown line before state", x.pole(1, 4), UNKNOWN);
        dueCounts("pole", x, 5, 4, 5);
    }

    private static void promise16Centre() {
        ConicRows x = withConics(q(1, 0, 1, -6, 8, 0), q(1, 2, 3, 4, 5, 6), q(1, 0, 0, 0, -1, 0), q(1, 0, 0, 2, 0, 1),
            q(0, 0, 0, 1, 1, 1), q(0, 1, 0, -2, -3, 6), q(500, 1, 1, 1, 499, 1));
        due("circle", x.centre(0), 0);
        dueNumbers("circle", x, 0, 0, 3, -4, 1);
        due("ordinary", x.centre(1), 1);
        dueNumbers("ordinary", x, 0, 1, 7, 1, -4);
        due("parabola", x.centre(2), 2);
        dueNumbers("parabola", x, 0, 2, 0, 1, 0);
        due("a line twice", x.centre(3), STATE);
        due("infinity and a line", x.centre(4), STATE);
        due("two lines", x.centre(5), 3);
        dueNumbers("two lines", x, 0, 3, 3, 2, 1);
        due("large", x.centre(6), LARGE);
        due("unknown", x.centre(7), UNKNOWN);
        due("unknown", x.centre(-1), UNKNOWN);
        dueCounts("centre", x, 4, 0, 7);
    }

    private static void promise17Dual() {
        ConicRows x = withConics(q(1, 2, 3, 4, 5, 6), q(1, 0, -1, 0, 0, 0), q(1, 0, 0, 0, -1, 0), q(400, 0, 30, 0, 1, 7));
        due("ordinary", x.dual(0), 4);
        dueNumbers("ordinary", x, 2, 4, 47, -8, 8, -28, -4, 8);
        due("dual of the dual", x.dual(4), 5);
        dueNumbers("dual of the dual", x, 2, 5, 1, 2, 3, 4, 5, 6);
        due("DET 0", x.dual(1), STATE);
        due("parabola", x.dual(2), 6);
        dueNumbers("parabola", x, 2, 6, 1, 0, 0, 0, -4, 0);
        due("large", x.dual(3), LARGE);
        due("unknown", x.dual(7), UNKNOWN);
        due("unknown", x.dual(-1), UNKNOWN);
        dueCounts("dual", x, 0, 0, 7);
    }

    private static void promise18Member() {
        ConicRows x = withConics(q(1, 2, 3, 4, 5, 6), q(0, 1, 0, -1, 0, 2), q(1, 0, 0, 0, 0, 0));
        due("2, -3", x.member(0, 1, 2, -3), 3);
        dueNumbers("2, -3", x, 2, 3, 2, 1, 6, 11, 10, 6);
        due("one alone", x.member(0, 1, 0, -500), 4);
        dueNumbers("one alone", x, 2, 4, 0, 1, 0, -1, 0, 2);
        due("500 both", x.member(2, 1, 500, 500), 5);
        dueNumbers("500 both", x, 2, 5, 1, 1, 0, -1, 0, 2);
        due("0 throughout", x.member(0, 1, 0, 0), STATE);
        due("0 throughout", x.member(1, 4, 7, -7), STATE);
        due("large", x.member(0, 1, 1, 500), LARGE);
        due("501", x.member(0, 1, 501, 0), OUTSIDE);
        due("-501", x.member(0, 1, 0, -501), OUTSIDE);
        due("501 second", x.member(0, 1, 0, 501), OUTSIDE);
        due("least", x.member(0, 1, Integer.MIN_VALUE, 0), OUTSIDE);
        due("unknown before outside", x.member(6, 0, 501, 0), UNKNOWN);
        due("unknown before outside", x.member(0, -1, 501, 0), UNKNOWN);
        dueCounts("member", x, 0, 0, 6);
    }

    private static void promise19Through() {
        ConicRows x = withConics(q(1, 0, 1, 0, 0, -1), q(0, 1, 0, 0, 0, 0), q(1, 0, 0, 0, 0, -1));
        x.point(2, 3, 1);
        x.point(1, 0, 1);
        x.point(1, 0, 0);
        x.point(1, 1, 0);
        x.point(500, 499, 3);
        due("ordinary", x.through(0, 1, 0), 3);
        dueNumbers("6 times c, less 12 times d", x, 2, 3, 1, -2, 1, 0, 0, -1);
        due("it is on", x.on(2, 3, 0), 1);
        due("on both", x.through(0, 1, 1), STATE);
        due("the same one", x.through(0, 0, 0), STATE);
        due("on one", x.through(1, 2, 2), 4);
        dueNumbers("on one", x, 2, 4, 0, 1, 0, 0, 0, 0);
        due("at infinity", x.through(0, 1, 3), 5);
        dueNumbers("at infinity", x, 2, 5, 1, -2, 1, 0, 0, -1);
        due("large", x.through(0, 1, 4), LARGE);
        due("unknown", x.through(6, 0, 0), UNKNOWN);
        due("unknown", x.through(0, 6, 0), UNKNOWN);
        due("unknown", x.through(0, 1, 5), UNKNOWN);
        dueCounts("through", x, 5, 0, 6);
    }

    private static void promise20Cubic() {
        ConicRows x = withConics(q(1, 0, 1, 0, 0, -1), q(1, 2, 3, 4, 5, 6), q(500, -500, 500, -500, 500, 499));
        due("u u u", x.cubic(0, 1, 0), -4);
        due("u u v", x.cubic(0, 1, 1), 4 * (-1 - 3 + 6));
        due("v v v", x.cubic(0, 1, 3), 15);
        // DET of u c + v d at (1, 1): (2, 2, 4, 4, 5, 5): 160 + 40 - 50 - 64 - 20 = 66.
        due("u v v", x.cubic(0, 1, 2), 66 + 4 - 8 - 15);
        due("other order", x.cubic(1, 0, 1), 47);
        due("other order", x.cubic(1, 0, 2), 8);
        due("with itself", x.cubic(1, 1, 1), 45);
        due("with itself", x.cubic(1, 1, 2), 45);
        long det = 4L * 500 * 500 * 499 + 125000000L - 2 * 125000000L - 499L * 250000;
        due("great", x.cubic(2, 2, 0), det);
        due("great", x.cubic(2, 2, 2), 3 * det);
        due("k 4", x.cubic(0, 1, 4), OUTSIDE);
        due("k -1", x.cubic(0, 1, -1), OUTSIDE);
        due("unknown before k", x.cubic(3, 1, 4), UNKNOWN);
        due("unknown", x.cubic(0, -1, 0), UNKNOWN);
    }

    private static void promise21Cross() {
        ConicRows x = withConics(q(1, 0, 1, 0, 0, -25), q(0, 1, 0, 0, 0, 0), q(1, 0, -2, 0, 0, 0), q(0, 0, 0, 1, 0, 0),
            q(1, 0, 1, 0, 0, 0));
        int[][] lines = {{1, 0, -3}, {1, 0, -5}, {1, 0, -6}, {1, 0, -1}, {0, 0, 1}, {1, 0, 0}, {3, 4, -25}, {1, -1, 0}};
        for (int[] l : lines) {
            x.line(l[0], l[1], l[2]);
        }
        int[][] want = {{2, 1, 0, 4, 0, 2, 1, 4}, {2, 2, 2, 2, 2, 3, 2, 1}, {4, 4, 4, 4, 4, 1, 4, 1}, {1, 1, 1, 1, 3, 3, 2, 2},
            {0, 0, 0, 0, 0, 1, 0, 1}};
        for (int c = 0; c < want.length; c++) {
            for (int l = 0; l < lines.length; l++) {
                due("cross(" + c + ", " + l + ")", x.cross(c, l), want[c][l]);
            }
        }
        due("unknown", x.cross(5, 0), UNKNOWN);
        due("unknown", x.cross(0, 8), UNKNOWN);
        due("unknown", x.cross(-1, 0), UNKNOWN);
        dueCounts("cross keeps nothing", x, 0, 8, 5);
    }

    private static void promise22Crossing() {
        ConicRows x = withConics(q(1, 0, 1, 0, 0, -25), q(0, 1, 0, 0, 0, -1), q(1, 0, -1, 0, 0, 0));
        x.line(1, 0, -3);
        x.line(3, 4, -25);
        x.line(1, 0, -1);
        x.line(1, 0, -6);
        x.line(0, 0, 1);
        x.line(1, -1, 0);
        x.line(5, 0, -9);
        due("k before a cross", x.crossing(0, 3), OUTSIDE);
        due("before a cross", x.crossing(0, 2), NONE);
        due("two", x.cross(0, 0), 2);
        dueCrossing("two, second number", x, 0, 3, -4, 1);
        dueCrossing("two, second number", x, 1, 3, 4, 1);
        dueCrossing("no third", x, 2);
        dueCrossing("no -1", x, -1);
        due("k 3", x.crossing(0, 3), OUTSIDE);
        due("k -1", x.crossing(0, -1), OUTSIDE);
        due("k before i", x.crossing(7, -1), OUTSIDE);
        due("refused", x.cross(3, 0), UNKNOWN);
        due("refused", x.cross(0, 9), UNKNOWN);
        dueCrossing("an unknown one changes nothing", x, 1, 3, 4, 1);
        x.split(2);
        dueCrossing("split changes nothing", x, 1, 3, 4, 1);
        due("touches", x.cross(0, 1), 1);
        dueCrossing("touches", x, 0, 3, 4, 1);
        dueCrossing("touches once", x, 1);
        due("not whole", x.cross(0, 2), 4);
        dueCrossing("not whole", x, 0);
        x.cross(0, 0);
        due("none", x.cross(0, 3), 0);
        dueCrossing("none", x, 0);
        due("infinity", x.cross(1, 4), 2);
        dueCrossing("infinity", x, 0, 0, 1, 0);
        dueCrossing("infinity", x, 1, 1, 0, 0);
        due("all of it", x.cross(2, 5), 3);
        dueCrossing("all of it", x, 0);
        dueCrossing("all of it", x, 1);
        due("order by first number of the reduced ones", x.cross(1, 5), 2);
        dueCrossing("order", x, 0, 1, 1, -1);
        dueCrossing("order", x, 1, 1, 1, 1);
        due("fractions", x.cross(2, 6), 2);
        dueCrossing("fractions", x, 0, 9, -9, 5);
        dueCrossing("fractions", x, 1, 9, 9, 5);
    }

    /** Numbers of a crossing are told however great they are. */
    private static void promise22CrossingLargeNumbers() {
        ConicRows x = withConics(q(1, 0, 0, 0, -500, 0), q(499, 0, 0, 0, -500, 0), q(0, 500, 0, -499, 0, 0));
        x.line(499, 500, -1);
        x.line(499, 0, -500);
        x.line(500, 499, 0);
        due("parabola", x.cross(0, 1), 2);
        dueCrossing("parabola", x, 0, 0, 1, 0);
        dueCrossing("parabola", x, 1, 249500, 500, 249001);
        due("steeper", x.cross(1, 2), 2);
        dueCrossing("steeper", x, 0, 0, 0, 1);
        dueCrossing("steeper", x, 1, 499L * 250000, -500L * 250000, -499L * 499 * 499);
    }

    private static void promise23Split() {
        int[][] rows = {
            {1, 1, 2, 1, 2, 2, 1}, {1, 0, 0, 0, 0, 0, 1}, {1, 0, 0, 4, 0, -12, 9}, {2, 1, 0, -1, 0, 0, 0},
            {2, 0, 1, 0, 0, 0, 0}, {2, 0, 0, 0, 1, 2, 3}, {4, 1, 0, -2, 0, 0, 0}, {4, 1, 0, 0, 0, 0, -3},
            {0, 1, 0, 1, 0, 0, 0}, {0, 1, 0, 0, 0, 0, 1}, {0, 1, 1, 1, 0, 0, 0}, {2, 6, 7, 2, 11, 7, 3},
            {STATE, 1, 0, 1, 0, 0, -1}, {STATE, 1, 0, 1, 0, 0, 1}, {STATE, 1, 0, 0, 0, 1, 0}};
        ConicRows x = new ConicRows();
        for (int i = 0; i < rows.length; i++) {
            int[] r = rows[i];
            due("conic", x.conic(r[1], r[2], r[3], r[4], r[5], r[6]), i);
            due("split of row " + i, x.split(i), r[0]);
        }
        due("unknown", x.split(rows.length), UNKNOWN);
        due("unknown", x.split(-1), UNKNOWN);
        dueCounts("split keeps nothing", x, 0, 0, rows.length);
    }

    private static void promise24Part() {
        ConicRows x = withConics(q(6, 7, 2, 11, 7, 3), q(1, 0, 1, 0, 0, -1), q(0, 0, 4, 0, -12, 9), q(1, 0, -2, 0, 0, 0),
            q(0, 0, 0, 1, 2, 3), q(1, 0, 1, 0, 0, 0), q(0, 0, 0, 0, 1, -1), q(0, 0, 1, 0, 0, -4));
        due("k before a split", x.part(0, -1), OUTSIDE);
        due("before a split", x.part(0, 0), NONE);
        due("two", x.split(0), 2);
        // (2 x + y + 3 z) (3 x + 2 y + z)
        duePart("two", x, 0, 2, 1, 3);
        duePart("two", x, 1, 3, 2, 1);
        duePart("no third", x, 2);
        duePart("no -1", x, -1);
        due("k 3", x.part(0, 3), OUTSIDE);
        due("k before i", x.part(9, 3), OUTSIDE);
        due("refused", x.split(1), STATE);
        due("refused", x.split(8), UNKNOWN);
        duePart("a refused one changes nothing", x, 1, 3, 2, 1);
        x.line(1, 0, 0);
        x.cross(1, 0);
        duePart("cross changes nothing", x, 1, 3, 2, 1);
        due("one, twice", x.split(2), 1);
        duePart("one, twice", x, 0, 0, 2, -3);
        duePart("one, twice", x, 1);
        x.split(0);
        due("not whole", x.split(3), 4);
        duePart("not whole", x, 0);
        due("infinity and a line", x.split(4), 2);
        duePart("infinity", x, 0, 0, 0, 1);
        duePart("a line", x, 1, 1, 2, 3);
        due("none real", x.split(5), 0);
        duePart("none real", x, 0);
        due("first numbers the same", x.split(6), 2);
        duePart("by the second", x, 0, 0, 0, 1);
        duePart("by the second", x, 1, 0, 1, -1);
        due("first two the same", x.split(7), 2);
        duePart("by the third", x, 0, 0, 1, -2);
        duePart("by the third", x, 1, 0, 1, 2);
    }

    private static void unknownComesFirst() {
        ConicRows x = new ConicRows();
        x.point(1, 1, 1);
        x.line(1, 1, 1);
        x.conic(1, 0, 1, 0, 0, -1);
        for (int n : WRONG_NUMBERS) {
            due("number", x.number(0, n, 9), UNKNOWN);
            due("join", x.join(0, n), UNKNOWN);
            due("meet", x.meet(n, 0), UNKNOWN);
            due("on", x.on(1, n, 0), UNKNOWN);
            due("on", x.on(2, 0, n), UNKNOWN);
            due("kind", x.kind(n), UNKNOWN);
            due("told", x.told(n, 9), UNKNOWN);
            due("round", x.round(n), UNKNOWN);
            due("polar", x.polar(n, 0), UNKNOWN);
            due("polar", x.polar(0, n), UNKNOWN);
            due("pole", x.pole(n, 0), UNKNOWN);
            due("pole", x.pole(0, n), UNKNOWN);
            due("centre", x.centre(n), UNKNOWN);
            due("dual", x.dual(n), UNKNOWN);
            due("member", x.member(0, n, 501, 501), UNKNOWN);
            due("member", x.member(n, 0, 501, 501), UNKNOWN);
            due("through", x.through(n, 0, 0), UNKNOWN);
            due("through", x.through(0, n, 0), UNKNOWN);
            due("through", x.through(0, 0, n), UNKNOWN);
            due("cubic", x.cubic(n, 0, 9), UNKNOWN);
            due("cubic", x.cubic(0, n, 9), UNKNOWN);
            due("cross", x.cross(n, 0), UNKNOWN);
            due("cross", x.cross(0, n), UNKNOWN);
            due("split", x.split(n), UNKNOWN);
            due("crossing", x.crossing(n, 0), NONE);
            due("part", x.part(n, 0), NONE);
        }
        dueCounts("nothing was kept", x, 1, 1, 1);
    }

    private static ConicRows full() {
        ConicRows x = new ConicRows();
        for (int i = 0; i < 56; i++) {
            x.point(1, 1, 1);
            x.line(1, 1, 1);
            x.conic(1, 0, 1, 0, 0, -1);
        }
        x.point(500, 499, 1);
        x.point(0, 0, 1);
        x.point(1, 0, 0);
        x.point(0, 1, 0);
        x.line(500, 499, 1);
        x.line(0, 0, 1);
        x.line(1, 0, 0);
        x.line(0, 1, 0);
        x.conic(1, 0, -1, 0, 0, 0);
        x.conic(499, 0, 498, 0, 0, 497);
        x.conic(0, 1, 0, 0, 0, -1);
        x.conic(500, 1, 1, 1, 499, 1);
        dueCounts("full", x, 60, 60, 60);
        return x;
    }

    private static void largeComesBeforeRoom() {
        ConicRows x = full();
        due("join", x.join(56, 1), ROOM);
        due("meet", x.meet(56, 1), ROOM);
        due("join same", x.join(0, 1), STATE);
        due("meet same", x.meet(0, 1), STATE);
        due("polar large", x.polar(57, 56), LARGE);
        due("pole large", x.pole(57, 56), LARGE);
        due("polar state", x.polar(56, 57), STATE);
        due("pole state", x.pole(56, 57), STATE);
        due("centre large", x.centre(59), LARGE);
        due("dual large", x.dual(57), LARGE);
        due("dual state", x.dual(56), STATE);
        due("member large", x.member(0, 57, 1, 500), LARGE);
        due("member state", x.member(0, 1, 1, -1), STATE);
        due("member outside", x.member(0, 1, 1, 501), OUTSIDE);
        due("through large", x.through(0, 57, 56), LARGE);
        due("through state", x.through(0, 1, 0), STATE);
        due("five state", x.five(0, 1, 57, 58, 59), STATE);
        due("five large", x.five(0, 56, 57, 58, 59), LARGE);
        dueCounts("still full", x, 60, 60, 60);
    }

    private static void roomOfDerived() {
        ConicRows x = full();
        due("join", x.join(57, 58), ROOM);
        due("meet", x.meet(57, 58), ROOM);
        due("polar", x.polar(0, 0), ROOM);
        due("pole", x.pole(0, 0), ROOM);
        due("centre", x.centre(0), ROOM);
        due("dual", x.dual(0), ROOM);
        due("member", x.member(0, 58, 1, 1), ROOM);
        due("through", x.through(0, 56, 0), ROOM);
        ConicRows y = new ConicRows();
        int[][] points = {{1, 0, 1}, {0, 1, 1}, {-1, 0, 1}, {0, -1, 1}, {3, 4, 5}};
        for (int[] p : points) {
            y.point(p[0], p[1], p[2]);
        }
        for (int i = 0; i < 60; i++) {
            due("five " + i, y.five(0, 1, 2, 3, 4), i);
        }
        due("five", y.five(0, 1, 2, 3, 4), ROOM);
        dueNumbers("first still", y, 2, 0, 1, 0, 1, 0, 0, -1);
        dueNumbers("last", y, 2, 59, 1, 0, 1, 0, 0, -1);
    }

    private static void exampleOfReadme() {
        ConicRows rows = new ConicRows();
        int circle = rows.conic(1, 0, 1, 0, 0, -25);
        int line = rows.line(1, 0, -3);
        due("README: the circle", circle, 0);
        due("README: the line", line, 0);
        due("README: kind", rows.kind(circle), 0);
        due("README: round", rows.round(circle), 1);
        due("README: cross", rows.cross(circle, line), 2);
        due("README: the first crossing", rows.crossing(0, 1), -4);
        due("README: the second crossing", rows.crossing(1, 1), 4);
        int pole = rows.pole(circle, line);
        due("README: the pole", pole, 0);
        dueNumbers("README: the pole", rows, 0, pole, 25, 0, 3);
        int polar = rows.polar(circle, pole);
        due("README: the polar", polar, 1);
        dueNumbers("README: the polar", rows, 1, polar, 1, 0, -3);
        due("README: split", rows.split(circle), STATE);
    }
}
