import java.util.ArrayList;
import java.util.Arrays;
import java.util.List;

/**
 * The edges at which an answer turns into another one without being refused: what a KIND, a CIRCLE, a
 * crossing, a split just is and just no longer is, the last numbers that are taken, the greatest that
 * are told, and what crossing() and part() tell after each answer of cross() and split().
 */
public final class EdgesTest {
    private static final int NONE = ConicRows.NONE;
    private static final int UNKNOWN = ConicRows.UNKNOWN;
    private static final int OUTSIDE = ConicRows.OUTSIDE;
    private static final int STATE = ConicRows.STATE;
    private static final int LARGE = ConicRows.LARGE;
    private static final int CALLS = 512;

    private static int wrong = 0;

    public static void main(String[] args) {
        newObjectsKeepNothing();
        objectsAreApart();
        noCommonDivisorAndFirstAboveZero();
        theLastCallIsAnswered();
        countFromEmptyToFull();
        numberFirstAndLast();
        joinAndMeetAtInfinity();
        onJustAndJustNot();
        fiveNumbersOf30();
        fiveThreeInLine();
        fiveInEveryOrder();
        fiveOfGreatNumbers();
        kindsSideBySide();
        kindsOfGreatNumbers();
        toldLeastAndGreatest();
        toldLikeRefusals();
        roundJustAndJustNot();
        polarJustNotZero();
        poleIsTheOneWithThatPolar();
        centreJustNotZero();
        dualJustNotZero();
        dualHoldsThePolars();
        memberTimes500();
        throughOneOfBoth();
        throughGreatValues();
        cubicLeastAndGreatest();
        crossSideBySide();
        crossAtInfinity();
        crossEachKind();
        crossingAfterEachAnswer();
        crossingOrder();
        splitSideBySide();
        splitOfGreatNumbers();
        partAfterEachAnswer();
        partOrder();
        crossingAndPartAreApart();
        System.out.println(wrong == 0 ? "all answers are as due" : wrong + " answers are not as due");
        if (wrong != 0) {
            System.exit(1);
        }
    }

    private static void due(String call, long got, long want) {
        if (got != want) {
            wrong++;
            System.out.println(call + " answered " + got + ", due is " + want);
        }
    }

    private static void dueNumbers(String what, ConicRows x, int sort, int i, int... want) {
        for (int k = 0; k < want.length; k++) {
            due(what + ": number(" + sort + ", " + i + ", " + k + ")", x.number(sort, i, k), want[k]);
        }
    }

    private static void dueKept(String what, ConicRows x, int sort, int got, int... want) {
        due(what, got, x.count(sort) - 1);
        due(what + ": number beyond the last", x.number(sort, got + 1, 0), UNKNOWN);
        dueNumbers(what, x, sort, got, want);
    }

    /** Without numbers there is to be no such crossing. */
    private static void dueCrossing(String what, ConicRows x, int i, long... want) {
        for (int k = 0; k < 3; k++) {
            due(what + ": crossing(" + i + ", " + k + ")", x.crossing(i, k), want.length == 0 ? NONE : want[k]);
        }
    }

    private static void duePart(String what, ConicRows x, int i, long... want) {
        for (int k = 0; k < 3; k++) {
            due(what + ": part(" + i + ", " + k + ")", x.part(i, k), want.length == 0 ? NONE : want[k]);
        }
    }

    private static int point(ConicRows x, int... n) {
        return x.point(n[0], n[1], n[2]);
    }

    private static int line(ConicRows x, int... n) {
        return x.line(n[0], n[1], n[2]);
    }

    private static int conic(ConicRows x, int... n) {
        return x.conic(n[0], n[1], n[2], n[3], n[4], n[5]);
    }

    private static int five(ConicRows x, int... n) {
        return x.five(n[0], n[1], n[2], n[3], n[4]);
    }

    private static ConicRows with(int[][] points, int[][] lines, int[][] conics) {
        ConicRows x = new ConicRows();
        for (int i = 0; i < points.length; i++) {
            due("point", point(x, points[i]), i);
        }
        for (int i = 0; i < lines.length; i++) {
            due("line", line(x, lines[i]), i);
        }
        for (int i = 0; i < conics.length; i++) {
            due("conic", conic(x, conics[i]), i);
        }
        return x;
    }

    private static int[][] rows(int[]... rows) {
        return rows;
    }

    private static int[] r(int... numbers) {
        return numbers;
    }

    /** Promise 1: "Nothing is kept." */
    private static void newObjectsKeepNothing() {
        for (int sort = 0; sort < 3; sort++) {
            ConicRows x = new ConicRows();
            due("count of a new one", x.count(sort), 0);
            due("number of a new one", x.number(sort, 0, 0), UNKNOWN);
        }
        ConicRows x = new ConicRows();
        for (int i = -1; i < 3; i++) {
            dueCrossing("a new one", x, i);
            duePart("a new one", x, i);
        }
        due("first point", x.point(1, 2, 3), 0);
        due("first line", x.line(1, 2, 3), 0);
        due("first conic", x.conic(1, 2, 3, 4, 5, 6), 0);
    }

    private static void objectsAreApart() {
        ConicRows x = with(rows(r(1, 0, 0)), rows(r(1, 0, 0)), rows(r(1, 0, -1, 0, 0, 0)));
        ConicRows y = new ConicRows();
        due("cross", x.cross(0, 0), 1);
        due("split", x.split(0), 2);
        dueCrossing("the other one", y, 0);
        duePart("the other one", y, 0);
        due("the other one's points", y.count(0), 0);
        conic(y, 1, 0, 0, 0, 0, 0);
        line(y, 0, 1, 0);
        due("cross of the other", y.cross(0, 0), 1);
        due("split of the other", y.split(0), 1);
        dueCrossing("the first one still", x, 0, 0, 0, 1);
        duePart("the first one still", x, 0, 1, -1, 0);
        duePart("the first one still", x, 1, 1, 1, 0);
        dueNumbers("the first one's conic still", x, 2, 0, 1, 0, -1, 0, 0, 0);
    }

    /** Terms: "without a common divisor, the first that is not 0 being above 0", whatever call makes it. */
    private static void noCommonDivisorAndFirstAboveZero() {
        ConicRows x = with(rows(r(0, 0, 1), r(2, 4, 1), r(0, 3, 1), r(0, 5, 1)), rows(r(0, 0, 1), r(2, 4, 1), r(0, 3, 1), r(0, 5, 1)),
            rows(r(1, 0, 1, 0, 0, -1), r(1, 0, 0, 0, 1, 0), r(0, 0, 1, 0, 0, -4), r(1, 0, 1, -6, 8, 0)));
        dueKept("join: -4, 2, 0", x, 1, x.join(0, 1), 2, -1, 0);
        dueKept("join: -2, 0, 0", x, 1, x.join(2, 3), 1, 0, 0);
        dueKept("meet: -4, 2, 0", x, 0, x.meet(0, 1), 2, -1, 0);
        dueKept("polar: 0, 0, -2", x, 1, x.polar(0, 0), 0, 0, 1);
        dueKept("polar: 0, 6, -2", x, 1, x.polar(0, 2), 0, 3, -1);
        dueKept("pole: -8, -16, 4", x, 0, x.pole(0, 1), 2, 4, -1);
        dueKept("centre: 0, -2, 0", x, 0, x.centre(1), 0, 1, 0);
        dueKept("centre: 12, -16, 4", x, 0, x.centre(3), 3, -4, 1);
        dueKept("dual: -4, 0, -4, 0, 0, 4", x, 2, x.dual(0), 1, 0, 1, 0, 0, -1);
        dueKept("member: 0, 0, -2, 0, 0, 8", x, 2, x.member(1, 2, 0, -2), 0, 0, 1, 0, 0, -4);
        dueKept("member: -2, 0, 0, 0, -2, 0", x, 2, x.member(1, 2, -2, 0), 1, 0, 0, 0, 1, 0);
        dueKept("member: -6, 0, 0, 0, 0, -18", x, 2, x.member(0, 2, -6, 6), 1, 0, 0, 0, 0, 3);
        dueKept("through: 5 times c, less 8 times d", x, 2, x.through(0, 2, 2), 5, 0, -3, 0, 0, 27);
        dueKept("through: 8 times c, less 5 times d", x, 2, x.through(2, 0, 2), 5, 0, -3, 0, 0, 27);
    }

    /** "An object is used for at most 512 calls": the 512th, too, is as due. */
    private static void theLastCallIsAnswered() {
        ConicRows x = with(rows(), rows(r(1, 0, -3)), rows(r(1, 0, 1, 0, 0, -25)));
        due("cross", x.cross(0, 0), 2);
        for (int call = 3; call < CALLS - 1; call++) {
            due("call " + call, x.kind(0), 0);
        }
        due("the last call", x.crossing(1, 1), 4);
        ConicRows y = new ConicRows();
        for (int call = 0; call < CALLS - 1; call++) {
            due("point, call " + call, y.point(call + 1, 1, 0), call < 60 ? call : call < 500 ? ConicRows.ROOM : LARGE);
        }
        due("the last call", y.number(0, 59, 0), 60);
    }

    /** Promise 5: "How many .. there are." */
    private static void countFromEmptyToFull() {
        ConicRows x = new ConicRows();
        for (int i = 0; i <= 62; i++) {
            int want = Math.min(i, 60);
            due("points", x.count(0), want);
            due("lines", x.count(1), want / 2);
            due("conics", x.count(2), want / 3);
            x.point(1, i, 0);
            if (i % 2 == 1 && i < 60) {
                x.line(1, i, 0);
            }
            if (i % 3 == 2 && i < 60) {
                x.conic(1, i, 0, 0, 0, 0);
            }
        }
        due("count(-1)", x.count(-1), OUTSIDE);
        due("count(3)", x.count(3), OUTSIDE);
    }

    /** Promise 6: "Number k (from 0 on)": the first and the last k of the first and the last one. */
    private static void numberFirstAndLast() {
        ConicRows x = new ConicRows();
        for (int i = 0; i < 60; i++) {
            point(x, 500, i, -499);
            line(x, i + 1, -500, 499);
            conic(x, 1, i, -i, 500, -500, 499);
        }
        for (int i = 0; i < 60; i += 59) {
            dueNumbers("point", x, 0, i, 500, i, -499);
            dueNumbers("line", x, 1, i, i + 1, -500, 499);
            dueNumbers("conic", x, 2, i, 1, i, -i, 500, -500, 499);
            int[] widths = {3, 3, 6};
            for (int sort = 0; sort < 3; sort++) {
                due("k -1", x.number(sort, i, -1), OUTSIDE);
                due("k too large", x.number(sort, i, widths[sort]), OUTSIDE);
            }
        }
        for (int sort = 0; sort < 3; sort++) {
            due("i -1", x.number(sort, -1, 0), UNKNOWN);
            due("i 60", x.number(sort, 60, 0), UNKNOWN);
        }
    }

    /** "also such as lie at infinity" */
    private static void joinAndMeetAtInfinity() {
        int[][] rows = rows(r(1, 0, 0), r(0, 1, 0), r(3, -2, 0), r(5, 7, 1), r(0, 0, 1), r(1, 0, -4));
        ConicRows x = with(rows, rows, rows());
        dueKept("join of two at infinity", x, 1, x.join(0, 2), 0, 0, 1);
        dueKept("join of two at infinity", x, 1, x.join(2, 1), 0, 0, 1);
        dueKept("join with one at infinity", x, 1, x.join(3, 2), 2, 3, -31);
        dueKept("meet of two side by side", x, 0, x.meet(0, 5), 0, 1, 0);
        dueKept("meet with infinity", x, 0, x.meet(0, 4), 0, 1, 0);
        dueKept("meet with infinity", x, 0, x.meet(3, 4), 7, -5, 0);
        dueKept("meet of two through the origin", x, 0, x.meet(1, 2), 0, 0, 1);
        due("infinity with itself", x.meet(4, x.join(0, 1)), STATE);
    }

    /** Promise 9: a sum of just 0, of 1 and of -1. */
    private static void onJustAndJustNot() {
        ConicRows x = with(rows(r(499, -500, 1), r(499, -500, 0), r(499, -499, 2), r(1, 1, 1)),
            rows(r(500, 499, 0), r(500, 499, 1), r(500, 499, -1)),
            rows(r(500, -499, 0, 0, 0, -1), r(500, -499, 0, 0, 0, 0), r(500, -499, 0, 0, 0, -2), r(1, 2, 4, 8, 16, -31),
                r(1, 2, 4, 8, 16, -30), r(1, 2, 4, 8, 16, -32)));
        int[][] onLines = {{1, 1, 0}, {0, 1, 0}, {0, 1, 0}};
        for (int l = 0; l < 3; l++) {
            for (int p = 0; p < 3; p++) {
                due("on(1, " + l + ", " + p + ")", x.on(1, l, p), onLines[l][p]);
            }
        }
        int[] onConics = {1, 0, 0, 1, 0, 0};
        for (int c = 0; c < 6; c++) {
            due("on(2, " + c + ", 3)", x.on(2, c, 3), onConics[c]);
        }
        dueOn(r(500, 500, 500, 500, 500, 499), r(500, 500, 499), 0);
        dueOn(r(500, -500, 1, 0, 0, 0), r(500, 500, 499), 0);
        dueOn(r(500, -499, -1, 0, 0, 0), r(500, 500, 499), 1);
        dueOn(r(499, -499, 1, 0, 0, -1), r(500, 500, -499), 0);
        dueOn(r(0, 0, 0, 500, -500, 1), r(500, 500, -499), 0);
        dueOn(r(0, 0, 0, 500, 499, 0), r(499, -500, 500), 1);
        dueOn(r(1, 1, 1, 1, 1, 1), r(1, 1, -1), 0);
        dueOn(r(1, 1, 1, 1, 1, -1), r(1, 1, -1), 1);
    }

    private static void dueOn(int[] conic, int[] point, int want) {
        ConicRows x = with(rows(point), rows(), rows(conic));
        due("on " + Arrays.toString(conic) + " " + Arrays.toString(point), x.on(2, 0, 0), want);
    }

    /** Promise 10: "LARGE: also if one of the POINTS has a number beyond -30 to 30", in each place of each. */
    private static void fiveNumbersOf30() {
        int[][][] lines = {{{1, 0, 1}, {0, 0, 1}, {0, 1, 1}, {1, 1, 1}}, {{1, 0, 0}, {0, 1, 0}, {0, 0, 1}, {1, 1, 1}}};
        int[][] conics = {{0, 0, 1, 0, -1, 0}, {0, 0, 0, 1, -1, 0}};
        fiveWithEdge(lines[0], conics[0], r(30, 0, 1), r(31, 0, 1));
        fiveWithEdge(lines[0], conics[0], r(29, 0, 30), r(29, 0, 31));
        fiveWithEdge(lines[0], conics[0], r(30, 0, -1), r(31, 0, -1));
        fiveWithEdge(lines[0], conics[0], r(29, 0, -30), r(29, 0, -31));
        fiveWithEdge(lines[1], conics[1], r(1, 30, 0), r(1, 31, 0));
        fiveWithEdge(lines[1], conics[1], r(1, -30, 0), r(1, -31, 0));
        fiveWithEdge(lines[1], conics[1], r(30, -29, 0), r(30, -31, 0));
        fiveWithEdge(lines[1], conics[1], r(-30, 29, 0), r(-31, 29, 0));
        // The numbers that are kept count, not those that were given.
        fiveWithEdge(lines[0], conics[0], r(60, 0, 2), r(62, 0, 2));
        fiveWithEdge(lines[0], conics[0], r(-900, 0, 30), r(-930, 0, 30));
    }

    private static void fiveWithEdge(int[][] others, int[] conic, int[] within, int[] beyond) {
        for (int place = 0; place < 5; place++) {
            int[][] points = new int[5][];
            for (int i = 0, next = 0; i < 5; i++) {
                points[i] = i == place ? within : others[next++];
            }
            ConicRows x = with(points, rows(), rows());
            dueKept("five with " + Arrays.toString(within) + " at " + place, x, 2, x.five(0, 1, 2, 3, 4), conic);
            int far = point(x, beyond);
            int[] p = r(0, 1, 2, 3, 4);
            p[place] = far;
            due("five with " + Arrays.toString(beyond) + " at " + place, five(x, p), LARGE);
            due("five with one beyond keeps nothing", x.count(2), 1);
        }
    }

    /** Promise 10: "some four are ON one LINE" refuses; three do not, wherever they stand. */
    private static void fiveThreeInLine() {
        int[][] inLine = {{0, 0, 1}, {2, 0, 1}, {1, 0, 0}};
        int[][] others = {{1, 1, 1}, {5, 7, 1}};
        for (int i = 0; i < 5; i++) {
            for (int j = i + 1; j < 5; j++) {
                int[][] points = new int[5][];
                for (int k = 0, next = 0; k < 5; k++) {
                    points[k] = k == i ? others[0] : k == j ? others[1] : inLine[next++];
                }
                ConicRows x = with(points, rows(), rows());
                // y (3 x - 2 y - z)
                dueKept("five: three in line but for " + i + ", " + j, x, 2, x.five(0, 1, 2, 3, 4), 0, 3, -2, 0, -1, 0);
                due("its kind", x.kind(0), 4);
                int fourth = x.point(9, 0, 1);
                int[] p = r(0, 1, 2, 3, 4);
                p[i] = fourth;
                due("five: four in line but for " + j, five(x, p), STATE);
                p[j] = x.point(-9, 0, 1);
                due("five: five in line", five(x, p), STATE);
            }
        }
        // Two threes in line: two lines that meet in one of the points.
        ConicRows x = with(rows(r(0, 0, 1), r(1, 0, 1), r(1, 0, 0), r(0, 1, 1), r(0, 1, 0)), rows(), rows());
        dueKept("five: two threes in line", x, 2, x.five(0, 1, 2, 3, 4), 0, 1, 0, 0, 0, 0);
        dueKept("five: two threes in line", x, 2, x.five(4, 2, 0, 1, 3), 0, 1, 0, 0, 0, 0);
    }

    private static void fiveInEveryOrder() {
        List<int[]> orders = new ArrayList<>();
        addOrders(orders, new int[5], 0, 0);
        due("orders", orders.size(), 120);
        int[][] circle = {{1, 0, 1}, {0, 1, 1}, {3, 4, 5}, {-5, 12, 13}, {0, -1, 1}};
        int[][] parabola = {{0, 0, 1}, {1, 1, 1}, {0, 1, 0}, {-2, 4, 1}, {3, 9, 1}};
        for (int i = 0; i < orders.size(); i += 40) {
            ConicRows x = with(circle, rows(), rows());
            ConicRows y = with(parabola, rows(), rows());
            for (int[] order : orders.subList(i, i + 40)) {
                dueKept("five of a circle", x, 2, five(x, order), 1, 0, 1, 0, 0, -1);
                dueKept("five of a parabola", y, 2, five(y, order), 1, 0, 0, 0, -1, 0);
            }
        }
    }

    private static void addOrders(List<int[]> orders, int[] order, int place, int taken) {
        if (place == 5) {
            orders.add(order.clone());
            return;
        }
        for (int p = 0; p < 5; p++) {
            if ((taken >> p & 1) == 0) {
                order[place] = p;
                addOrders(orders, order, place + 1, taken | 1 << p);
            }
        }
    }

    /** Numbers up to 30 throughout make numbers far beyond an int on the way to small ones. */
    private static void fiveOfGreatNumbers() {
        ConicRows x = with(rows(r(20, 21, 29), r(21, 20, 29), r(20, -21, 29), r(21, -20, 29), r(20, 21, -29)), rows(), rows());
        dueKept("five of a circle", x, 2, x.five(0, 1, 2, 3, 4), 1, 0, 1, 0, 0, -1);
        dueKept("five of a circle", x, 2, x.five(4, 3, 2, 1, 0), 1, 0, 1, 0, 0, -1);
        ConicRows y = with(rows(r(30, 30, 29), r(30, -30, 29), r(30, 30, -29), r(30, -30, -29), r(1, 1, 1)), rows(), rows());
        dueKept("five of two lines", y, 2, y.five(0, 1, 2, 3, 4), 1, 0, -1, 0, 0, 0);
        ConicRows z = with(rows(r(30, 29, 28), r(29, 28, -30), r(28, -30, 29), r(30, -29, 27), r(27, 30, -29)), rows(), rows());
        due("five with numbers beyond 500", z.five(0, 1, 2, 3, 4), LARGE);
        due("nothing is kept", z.count(2), 0);
    }

    private static void dueKind(int want, int... q) {
        ConicRows x = with(rows(), rows(), rows(q));
        due("kind of " + Arrays.toString(q), x.kind(0), want);
        // So many times the same has the same KIND, also if it is turned about.
        ConicRows y = with(rows(), rows(), rows(r(-q[0], -q[1], -q[2], -q[3], -q[4], -q[5])));
        due("kind of the turned " + Arrays.toString(q), y.kind(0), want);
    }

    /** Terms, KIND: DET, DISC and the last sum each above 0, 0 and below 0. */
    private static void kindsSideBySide() {
        dueKind(0, 1, 0, 1, 0, 0, -1);
        dueKind(7, 1, 0, 1, 0, 0, 0);
        dueKind(1, 1, 0, 1, 0, 0, 1);
        dueKind(3, 1, 0, -1, 0, 0, -1);
        dueKind(4, 1, 0, -1, 0, 0, 0);
        dueKind(3, 1, 0, -1, 0, 0, 1);
        dueKind(0, 1, 1, 1, 0, 0, -1);
        dueKind(5, 1, 2, 1, 0, 0, -1);
        dueKind(3, 1, 3, 1, 0, 0, -1);
        dueKind(1, 1, 1, 1, 0, 0, 1);
        dueKind(8, 1, 2, 1, 0, 0, 1);
        dueKind(3, 1, 3, 1, 0, 0, 1);
        dueKind(0, 1, 2, 2, 1, 0, 0);
        dueKind(2, 1, 2, 1, 1, 0, 0);
        dueKind(5, 1, 2, 1, 1, 1, 0);
        dueKind(6, 1, 2, 1, 2, 2, 1);
        dueKind(8, 1, 2, 1, 2, 2, 2);
        dueKind(5, 1, 2, 1, 2, 2, 0);
        dueKind(5, 0, 0, 1, 0, 3, 2);
        dueKind(6, 0, 0, 1, 0, 2, 1);
        dueKind(8, 0, 0, 1, 0, 1, 1);
        dueKind(5, 1, 0, 0, 3, 0, 2);
        dueKind(6, 1, 0, 0, 2, 0, 1);
        dueKind(8, 1, 0, 0, 1, 0, 1);
        dueKind(2, 1, 0, 0, 0, 1, 0);
        dueKind(2, 0, 0, 1, 1, 0, 0);
        dueKind(9, 0, 0, 0, 1, 0, 0);
        dueKind(9, 0, 0, 0, 0, 1, 0);
        dueKind(9, 0, 0, 0, 1, -1, 0);
        dueKind(9, 0, 0, 0, 0, 1, 1);
        dueKind(10, 0, 0, 0, 0, 0, 1);
        dueKind(4, 0, 1, 0, 0, 0, 0);
        dueKind(4, 0, 1, 0, 1, 0, 0);
        dueKind(3, 0, 1, 0, 0, 0, 1);
        dueKind(3, 0, 1, 0, 1, 1, 0);
    }

    private static void kindsOfGreatNumbers() {
        // DET -1, 0, then the least above 0 with DISC below 0; DET -1, 0, 1 with DISC above 0.
        dueKind(0, 307, 340, 273, 275, 490, 221);
        dueKind(0, 287, -439, 168, 439, -335, 169);
        dueKind(7, 293, 434, 245, 204, 420, 250);
        dueKind(7, 211, 451, 241, -451, -482, 241);
        dueKind(1, 155, -395, 267, 317, -438, 181);
        dueKind(1, 154, 454, 335, 330, 487, 177);
        dueKind(3, 361, 374, -251, 216, 253, 18);
        dueKind(4, 381, 372, -377, -261, -255, 36);
        dueKind(3, 494, -212, -265, 447, -380, 31);
        // DISC just below 0, 0 and just above it.
        dueKind(0, 125, 499, 500, 0, 0, -1);
        dueKind(1, 125, 499, 500, 0, 0, 1);
        dueKind(2, 125, 500, 500, 0, 1, 0);
        dueKind(3, 125, 500, 499, 0, 0, 1);
        dueKind(2, 125, -500, 500, 1, 0, 500);
        // The last sum: (15 x + 16 y) squared, with 30 of it, and about 225.
        dueKind(5, 225, 480, 256, 450, 480, 224);
        dueKind(6, 225, 480, 256, 450, 480, 225);
        dueKind(8, 225, 480, 256, 450, 480, 226);
        dueKind(2, 225, 480, 256, 451, 480, 225);
        dueKind(2, 225, 480, 256, 450, 479, 225);
        // (a + c) DET is beyond an int.
        dueKind(1, 500, 0, 500, 0, 0, 499);
        dueKind(0, 500, 0, 500, 0, 0, -499);
        dueKind(1, 500, 0, 499, 0, 1, 500);
        dueKind(0, 500, 0, 499, 0, 1, -500);
        dueKind(1, 400, 1, 350, 0, 1, 300);
        dueKind(0, 400, 1, 350, 0, 1, -300);
        dueKind(1, 300, 1, 250, 0, 1, 200);
        dueKind(0, 300, 1, 250, 0, 1, -200);
        dueKind(0, 500, -499, 500, -500, -500, -500);
        dueKind(3, 500, 500, -500, 500, 499, -500);
    }

    private static void dueTold(long det, long disc, int... q) {
        ConicRows x = with(rows(), rows(), rows(q));
        due("DET of " + Arrays.toString(q), x.told(0, 0), det);
        due("DISC of " + Arrays.toString(q), x.told(0, 1), disc);
        due("what -1", x.told(0, -1), OUTSIDE);
        due("what 2", x.told(0, 2), OUTSIDE);
    }

    /** Promise 12: the least and the greatest DET and DISC that there can be, and such close to 0. */
    private static void toldLeastAndGreatest() {
        dueTold(750249500, 1250000, 500, 500, -500, 500, 499, -500);
        dueTold(750249500, 1250000, 500, -500, -500, 500, -499, -500);
        dueTold(-750249500, -750999, 500, -499, 500, -500, -500, -500);
        dueTold(-750249500, 1250000, 500, -500, -500, -499, -500, 500);
        dueTold(4L * 500 * 500 * 499, -1000000, 500, 0, 500, 0, 0, 499);
        dueTold(0, -999999, 500, 1, 500, 0, 0, 0);
        dueTold(-1, -143, 287, -439, 168, 439, -335, 169);
        dueTold(1, 568584, 494, -212, -265, 447, -380, 31);
        dueTold(0, 0, 0, 0, 0, 0, 0, 1);
        dueTold(0, 1, 0, 1, 0, 0, 0, 0);
        dueTold(2, -3, 1, 1, 1, 1, 1, 1);
        // Each of the five products alone.
        dueTold(4, -4, 1, 0, 1, 0, 0, 1);
        dueTold(1, 1, 0, 1, 0, 1, 1, 0);
        dueTold(-1, 0, 1, 0, 0, 0, 1, 0);
        dueTold(-1, 0, 0, 0, 1, 1, 0, 0);
        dueTold(-1, 1, 0, 1, 0, 0, 0, 1);
    }

    /** Promise 12: "UNKNOWN, OUTSIDE: as numbers (they can be told apart by kind())". */
    private static void toldLikeRefusals() {
        ConicRows x = with(rows(), rows(), rows(r(2, 0, 250, 0, 1, -500), r(313, -500, 207, 457, -362, 58),
            r(204, 500, -343, -223, 385, -104)));
        due("a DET like UNKNOWN", x.told(0, 0), -1000002);
        due("its kind", x.kind(0), 0);
        due("a DET like OUTSIDE", x.told(1, 0), -1000003);
        due("its kind", x.kind(1), 0);
        due("a DET like NONE", x.told(2, 0), -1000001);
        due("its kind", x.kind(2), 3);
        due("UNKNOWN", x.told(3, 0), UNKNOWN);
        due("its kind", x.kind(3), UNKNOWN);
        due("cubic like UNKNOWN", x.cubic(0, 1, 0), -1000002);
        due("cubic like OUTSIDE", x.cubic(0, 1, 3), -1000003);
    }

    private static void dueRound(int want, int... q) {
        ConicRows x = with(rows(), rows(), rows(q));
        due("round of " + Arrays.toString(q), x.round(0), want);
    }

    /** Promise 13: each part of "b is 0, a is c, not 0" and of "a + c is 0, and a or b is not" broken alone. */
    private static void roundJustAndJustNot() {
        dueRound(1, 1, 0, 1, 0, 0, 0);
        dueRound(1, 1, 0, 1, 0, 0, 1);
        dueRound(1, 500, 0, 500, 1, -1, 499);
        dueRound(1, -1, 0, -1, 3, 4, 5);
        dueRound(0, 1, 1, 1, 0, 0, -1);
        dueRound(0, 1, -1, 1, 0, 0, -1);
        dueRound(0, 1, 0, 2, 0, 0, -1);
        dueRound(0, 2, 0, 1, 0, 0, -1);
        dueRound(0, 500, 0, 499, 0, 0, -1);
        dueRound(0, 0, 0, 0, 1, 0, 0);
        dueRound(0, 0, 0, 0, 0, 0, 1);
        dueRound(2, 1, 0, -1, 0, 0, 0);
        dueRound(2, 1, 0, -1, 0, 0, 1);
        dueRound(2, 0, 1, 0, 0, 0, 0);
        dueRound(2, 0, -1, 0, 0, 0, 1);
        dueRound(2, 500, 499, -500, 0, 0, 1);
        dueRound(2, -1, 2, 1, 0, 0, 1);
        dueRound(0, 500, 499, -499, 0, 0, 1);
        dueRound(0, 1, 0, -2, 0, 0, 0);
        dueRound(0, 1, 0, 0, 0, 0, 0);
        dueRound(0, 0, 0, 1, 0, 0, 0);
        dueRound(0, 0, 1, 1, 0, 0, 0);
        dueRound(0, 1, 1, 0, 0, 0, 0);
    }

    /** Promise 14: "STATE: that is 0 throughout"; any one number that is not 0 makes a LINE. */
    private static void polarJustNotZero() {
        ConicRows x = with(rows(r(0, 0, 1), r(1, 0, 0), r(0, 1, 0), r(1, -1, 0)), rows(),
            rows(r(0, 0, 0, 1, 0, 0), r(0, 0, 0, 0, 1, 0), r(0, 0, 0, 0, 0, 1), r(1, 2, 1, 0, 0, 0)));
        dueKept("only the first", x, 1, x.polar(0, 0), 1, 0, 0);
        dueKept("only the second", x, 1, x.polar(1, 0), 0, 1, 0);
        dueKept("only the third", x, 1, x.polar(2, 0), 0, 0, 1);
        dueKept("only the third", x, 1, x.polar(0, 1), 0, 0, 1);
        due("0 throughout", x.polar(0, 2), STATE);
        due("0 throughout", x.polar(1, 1), STATE);
        due("0 throughout", x.polar(2, 1), STATE);
        due("0 throughout", x.polar(2, 2), STATE);
        due("0 throughout", x.polar(3, 0), STATE);
        due("0 throughout", x.polar(3, 3), STATE);
        dueKept("a line twice", x, 1, x.polar(3, 1), 1, 1, 0);
        due("lines", x.count(1), 5);
    }

    /** Promise 15: "the one POINT whose POLAR it is", also at infinity, where DET is not 0. */
    private static void poleIsTheOneWithThatPolar() {
        int[][] lines = {{1, 0, 0}, {0, 1, 0}, {0, 0, 1}, {1, 2, 3}, {-2, 1, 5}};
        int[][] conics = {{1, 0, 1, 0, 0, -1}, {1, 0, 0, 0, -1, 0}, {0, 1, 0, 0, 0, -1}, {1, 0, 1, 0, 0, 1}, {2, 1, 3, -1, 2, 4}};
        ConicRows x = with(rows(), lines, conics);
        for (int c = 0; c < conics.length; c++) {
            for (int l = 0; l < lines.length; l++) {
                int p = x.pole(c, l);
                int back = x.polar(c, p);
                dueNumbers("polar of the pole", x, 1, back, x.number(1, l, 0), x.number(1, l, 1), x.number(1, l, 2));
            }
        }
        ConicRows y = with(rows(), lines, rows(r(287, -439, 168, 439, -335, 169), r(211, 451, 241, -451, -482, 241),
            r(494, -212, -265, 447, -380, 31)));
        due("DET -1", y.pole(0, 0) == STATE ? 1 : 0, 0);
        due("DET 0", y.pole(1, 0), STATE);
        due("DET 1", y.pole(2, 0) == STATE ? 1 : 0, 0);
    }

    /** Promise 16: "STATE: that is 0 throughout"; any one number that is not 0 makes a POINT. */
    private static void centreJustNotZero() {
        ConicRows x = with(rows(), rows(), rows(r(1, 0, 0, 0, 1, 0), r(0, 0, 1, 1, 0, 0), r(0, 1, 0, 0, 0, 0), r(1, 2, 1, 1, 1, 1),
            r(1, 2, 1, 1, 2, 1), r(0, 0, 0, 1, 1, 1), r(0, 0, 0, 0, 0, 1), r(1, 0, 0, 1, 0, 1), r(0, 0, 1, 0, 1, 1)));
        dueKept("only the second", x, 0, x.centre(0), 0, 1, 0);
        dueKept("only the first", x, 0, x.centre(1), 1, 0, 0);
        dueKept("only the third", x, 0, x.centre(2), 0, 0, 1);
        due("side by side", x.centre(3), STATE);
        dueKept("a parabola", x, 0, x.centre(4), 1, -1, 0);
        due("infinity and a line", x.centre(5), STATE);
        due("infinity twice", x.centre(6), STATE);
        due("side by side", x.centre(7), STATE);
        due("side by side", x.centre(8), STATE);
        due("points", x.count(0), 4);
    }

    /** Promise 17: "STATE: DET is 0"; else the POLARS of its POINTS are ON it. */
    private static void dualJustNotZero() {
        ConicRows x = with(rows(), rows(), rows(r(1, 0, 1, 0, 0, 1), r(1, 0, 1, 0, 0, 0), r(1, 0, 1, 0, 0, -1), r(1, 0, 0, 0, 0, 0),
            r(1, 1, 1, 1, 1, 1), r(0, 0, 1, 1, 0, 0), r(0, 1, 0, 1, 1, 0), r(211, 451, 241, -451, -482, 241), r(0, 0, 0, 0, 0, 1)));
        for (int c : r(1, 3, 7, 8)) {
            due("DET 0", x.dual(c), STATE);
        }
        dueKept("DET 4", x, 2, x.dual(0), 1, 0, 1, 0, 0, 1);
        dueKept("DET -4", x, 2, x.dual(2), 1, 0, 1, 0, 0, -1);
        dueKept("DET 2", x, 2, x.dual(4), 3, -2, 3, -2, -2, 3);
        dueKept("DET -1", x, 2, x.dual(5), 0, 0, 1, 4, 0, 0);
        dueKept("DET 1", x, 2, x.dual(6), 1, -2, 1, -2, -2, 1);
        due("conics", x.count(2), 14);
    }

    private static void dualHoldsThePolars() {
        int[][] points = {{1, 0, 1}, {3, 4, 5}, {0, 1, -1}, {2, 0, 1}};
        ConicRows x = with(points, rows(), rows(r(1, 0, 1, 0, 0, -1)));
        int dual = x.dual(0);
        for (int p = 0; p < points.length; p++) {
            int l = x.polar(0, p);
            int u = x.point(x.number(1, l, 0), x.number(1, l, 1), x.number(1, l, 2));
            due("the polar of " + p + " on the dual", x.on(2, dual, u), p < 3 ? 1 : 0);
        }
    }

    /** Promise 18: "(-500 to 500 each)". */
    private static void memberTimes500() {
        ConicRows x = with(rows(), rows(), rows(r(1, 0, 0, 0, 0, 0), r(0, 0, 0, 0, 0, 1), r(1, 0, 0, 0, 0, 1), r(0, 1, 0, 0, 0, 1)));
        dueKept("500, 1", x, 2, x.member(0, 1, 500, 1), 500, 0, 0, 0, 0, 1);
        dueKept("-500, 1", x, 2, x.member(0, 1, -500, 1), 500, 0, 0, 0, 0, -1);
        dueKept("1, 500", x, 2, x.member(0, 1, 1, 500), 1, 0, 0, 0, 0, 500);
        dueKept("1, -500", x, 2, x.member(0, 1, 1, -500), 1, 0, 0, 0, 0, -500);
        dueKept("500, 500", x, 2, x.member(0, 1, 500, 500), 1, 0, 0, 0, 0, 1);
        dueKept("-500, -500", x, 2, x.member(0, 1, -500, -500), 1, 0, 0, 0, 0, 1);
        dueKept("500, -499", x, 2, x.member(2, 3, 500, -499), 500, -499, 0, 0, 0, 1);
        dueKept("0, 500", x, 2, x.member(0, 1, 0, 500), 0, 0, 0, 0, 0, 1);
        dueKept("-500, 0", x, 2, x.member(0, 1, -500, 0), 1, 0, 0, 0, 0, 0);
        dueKept("one with itself", x, 2, x.member(3, 3, 500, -499), 0, 1, 0, 0, 0, 1);
        due("501, 1", x.member(0, 1, 501, 1), OUTSIDE);
        due("-501, 1", x.member(0, 1, -501, 1), OUTSIDE);
        due("1, 501", x.member(0, 1, 1, 501), OUTSIDE);
        due("1, -501", x.member(0, 1, 1, -501), OUTSIDE);
        due("500, 1: f is 501", x.member(2, 1, 500, 1), LARGE);
        due("500, -500 of the same", x.member(3, 3, 500, -500), STATE);
        due("conics", x.count(2), 14);
    }

    /** Promise 19: a POINT that is ON one of both leaves that one alone; ON both it is STATE. */
    private static void throughOneOfBoth() {
        ConicRows x = with(rows(r(0, 0, 1), r(1, 0, 0), r(1, 1, 1), r(1, 0, 1)), rows(),
            rows(r(1, 2, 0, 0, 0, 0), r(0, 3, 1, 0, 0, 0), r(0, 0, 0, 0, 0, 1), r(1, 2, -3, 0, 0, 0), r(2, 4, 0, 0, 0, 0)));
        due("on both", x.through(0, 1, 0), STATE);
        due("on both, turned", x.through(1, 0, 0), STATE);
        dueKept("on the first", x, 2, x.through(1, 0, 1), 0, 3, 1, 0, 0, 0);
        dueKept("on the second", x, 2, x.through(0, 1, 1), 0, 3, 1, 0, 0, 0);
        dueKept("on the first, at infinity", x, 2, x.through(2, 0, 1), 0, 0, 0, 0, 0, 1);
        due("the same by other numbers", x.through(0, 4, 2), STATE);
        due("the same, on it", x.through(3, 3, 2), STATE);
        dueKept("on none", x, 2, x.through(0, 1, 2), 4, -1, -3, 0, 0, 0);
        dueKept("on none, turned", x, 2, x.through(1, 0, 2), 4, -1, -3, 0, 0, 0);
        due("conics", x.count(2), 10);
    }

    /** VALUES times numbers go far beyond an int on the way to small ones. */
    private static void throughGreatValues() {
        ConicRows x = with(rows(r(500, -500, 499), r(500, 499, 500)), rows(),
            rows(r(500, 0, -1, 0, 0, 0), r(1, 0, 498, 0, 0, 0), r(500, 0, 0, 0, 0, 499), r(499, 0, 0, 0, 0, 500),
                r(500, -499, 500, -499, 500, 499)));
        dueKept("1.2475 * 10^8 of each", x, 2, x.through(0, 1, 0), 1, 0, -1, 0, 0, 0);
        dueKept("2.4975 * 10^8 of each", x, 2, x.through(2, 3, 1), 1, 0, 0, 0, 0, -1);
        due("no divisor to help", x.through(4, 1, 0), LARGE);
        due("no divisor to help", x.through(0, 4, 1), LARGE);
    }

    private static void dueCubic(int[] c, int[] d, long... want) {
        ConicRows x = with(rows(), rows(), rows(c, d));
        for (int k = 0; k < 4; k++) {
            due("cubic " + k + " of " + Arrays.toString(c) + " " + Arrays.toString(d), x.cubic(0, 1, k), want[k]);
            due("cubic, turned, " + k, x.cubic(1, 0, k), want[3 - k]);
        }
        due("k -1", x.cubic(0, 1, -1), OUTSIDE);
        due("k 4", x.cubic(0, 1, 4), OUTSIDE);
    }

    /** Promise 20: k from 0 to 3, numbers beyond an int, and each of the products alone. */
    private static void cubicLeastAndGreatest() {
        int[] most = {500, -500, -500, -500, 499, -500};
        int[] least = {500, -500, -500, -499, -500, 500};
        dueCubic(most, most, 750249500L, 2250748500L, 2250748500L, 750249500L);
        dueCubic(least, least, -750249500L, -2250748500L, -2250748500L, -750249500L);
        dueCubic(r(1, 0, 0, 0, 0, 0), r(0, 0, 1, 0, 0, 0), 0, 0, 0, 0);
        dueCubic(r(1, 0, 0, 0, 0, 0), r(0, 0, 1, 0, 0, 1), 0, 0, 4, 0);
        dueCubic(r(0, 0, 1, 0, 0, 0), r(1, 0, 0, 0, 0, 1), 0, 0, 4, 0);
        dueCubic(r(0, 0, 0, 0, 0, 1), r(1, 0, 1, 0, 0, 0), 0, 0, 4, 0);
        dueCubic(r(0, 1, 0, 0, 0, 0), r(0, 0, 0, 1, 1, 0), 0, 0, 1, 0);
        dueCubic(r(0, 0, 0, 1, 0, 0), r(0, 1, 0, 0, 1, 0), 0, 0, 1, 0);
        dueCubic(r(0, 0, 0, 0, 1, 0), r(0, 1, 0, 1, 0, 0), 0, 0, 1, 0);
        dueCubic(r(1, 0, 0, 0, 0, 0), r(0, 0, 0, 0, 1, 0), 0, 0, -1, 0);
        dueCubic(r(0, 0, 1, 0, 0, 0), r(0, 0, 0, 1, 0, 0), 0, 0, -1, 0);
        dueCubic(r(0, 0, 0, 0, 0, 1), r(0, 1, 0, 0, 0, 0), 0, 0, -1, 0);
        dueCubic(r(1, 0, 1, 0, 0, -1), r(1, 0, 1, 0, 0, -1), -4, -12, -12, -4);
    }

    /** Answer, then what crossing() tells: none, one or two POINTS. */
    private static void dueCross(int want, int[] q, int[] l, long... points) {
        ConicRows x = with(rows(), rows(l), rows(q));
        String what = "cross of " + Arrays.toString(q) + " " + Arrays.toString(l);
        due(what, x.cross(0, 0), want);
        int found = points.length / 3;
        due(what + ": the test's own number of points", found, want == 1 || want == 2 ? want : 0);
        for (int i = 0; i < 3; i++) {
            dueCrossing(what, x, i, i < found ? Arrays.copyOfRange(points, 3 * i, 3 * i + 3) : new long[0]);
        }
        dueCrossing(what, x, -1);
        // So many times the same LINE and CONIC cross at the same POINTS.
        ConicRows y = with(rows(), rows(r(-2 * l[0], -2 * l[1], -2 * l[2])), rows(r(-q[0], -q[1], -q[2], -q[3], -q[4], -q[5])));
        due(what + ", turned", y.cross(0, 0), want);
        for (int i = 0; i < found; i++) {
            dueCrossing(what + ", turned", y, i, Arrays.copyOfRange(points, 3 * i, 3 * i + 3));
        }
    }

    /** Promise 21: a LINE that just touches, and the next ones on either side. */
    private static void crossSideBySide() {
        int[] parabola = {1, 0, 0, 0, -1, 0};
        dueCross(1, parabola, r(44, -1, -484), 22, 484, 1);
        dueCross(2, parabola, r(44, -1, -483), 21, 441, 1, 23, 529, 1);
        dueCross(4, parabola, r(44, -1, -482));
        dueCross(0, parabola, r(44, -1, -485));
        dueCross(2, parabola, r(43, -1, -462), 21, 441, 1, 22, 484, 1);
        dueCross(0, parabola, r(43, -1, -463));
        dueCross(4, parabola, r(43, -1, -461));
        int[] circle = {1, 0, 1, 0, 0, -25};
        dueCross(1, circle, r(1, 0, -5), 5, 0, 1);
        dueCross(1, circle, r(1, 0, 5), 5, 0, -1);
        dueCross(0, circle, r(99, 0, -496));
        dueCross(4, circle, r(99, 0, -494));
        dueCross(2, circle, r(1, 0, 0), 0, 5, -1, 0, 5, 1);
        dueCross(1, circle, r(3, 4, -25), 3, 4, 1);
        dueCross(0, circle, r(3, 4, -26));
        dueCross(2, circle, r(3, 4, -24), 4, 3, 1, 44, 117, 25);
        dueCross(4, circle, r(3, 4, -23));
        int[] hyperbola = {0, 1, 0, 0, 0, -1};
        dueCross(0, hyperbola, r(256, 225, 479));
        dueCross(1, hyperbola, r(256, 225, 480), 225, 256, -240);
        dueCross(2, hyperbola, r(256, 225, 481), 1, 1, -1, 50625, 65536, -57600);
        dueCross(4, hyperbola, r(256, 225, 482));
        int[] lines = {0, 1, 0, 0, 0, 0};
        dueCross(3, lines, r(1, 0, 0));
        dueCross(3, lines, r(0, 1, 0));
        dueCross(1, lines, r(1, 1, 0), 0, 0, 1);
        dueCross(1, lines, r(500, 499, 0), 0, 0, 1);
        dueCross(2, lines, r(500, 499, 1), 0, 1, -499, 1, 0, -500);
        dueCross(2, lines, r(500, 0, 1), 0, 1, 0, 1, 0, -500);
    }

    /** Promise 21: "(Also at infinity.)" */
    private static void crossAtInfinity() {
        int[] infinity = {0, 0, 1};
        dueCross(0, r(1, 0, 1, 0, 0, -1), infinity);
        dueCross(1, r(1, 0, 0, 0, -1, 0), infinity, 0, 1, 0);
        dueCross(1, r(225, 480, 256, 1, 0, 0), infinity, 16, -15, 0);
        dueCross(2, r(0, 1, 0, 0, 0, -1), infinity, 0, 1, 0, 1, 0, 0);
        dueCross(2, r(1, 0, -1, 0, 0, -1), infinity, 1, -1, 0, 1, 1, 0);
        dueCross(4, r(1, 0, -2, 0, 0, -1), infinity);
        dueCross(3, r(0, 0, 0, 1, 2, 3), infinity);
        dueCross(3, r(0, 0, 0, 0, 0, 1), infinity);
        // One of the two lies at infinity, the other one does not.
        dueCross(2, r(1, 0, 0, 0, -1, 0), r(1, 0, -2), 0, 1, 0, 2, 4, 1);
        dueCross(2, r(0, 1, 0, 0, 0, -1), r(0, 1, -2), 1, 0, 0, 1, 4, 2);
        // It touches at infinity.
        dueCross(1, r(0, 1, 0, 0, 0, -1), r(1, 0, 0), 0, 1, 0);
    }

    /** Promise 21: LINES of which no POINT, one POINT or all is ON CONICS that fall apart or are no curve. */
    private static void crossEachKind() {
        dueCross(0, r(1, 0, 1, 0, 0, 1), r(1, 0, 0));
        dueCross(0, r(1, 0, 1, 0, 0, 0), r(1, 0, -1));
        dueCross(1, r(1, 0, 1, 0, 0, 0), r(1, 0, 0), 0, 0, 1);
        dueCross(0, r(1, 0, 1, 0, 0, 0), r(0, 0, 1));
        dueCross(3, r(1, 0, 0, 0, 0, -1), r(1, 0, -1));
        dueCross(3, r(1, 0, 0, 0, 0, -1), r(1, 0, 1));
        dueCross(1, r(1, 0, 0, 0, 0, -1), r(1, 0, 0), 0, 1, 0);
        dueCross(1, r(1, 0, 0, 0, 0, -1), r(0, 0, 1), 0, 1, 0);
        dueCross(2, r(1, 0, 0, 0, 0, -1), r(0, 1, 0), 1, 0, -1, 1, 0, 1);
        dueCross(4, r(1, 0, 0, 0, 0, -2), r(0, 1, 0));
        dueCross(1, r(1, 0, 0, 0, 0, -2), r(1, 0, -1), 0, 1, 0);
        dueCross(3, r(1, 0, 0, 0, 0, 0), r(1, 0, 0));
        dueCross(1, r(1, 0, 0, 0, 0, 0), r(0, 0, 1), 0, 1, 0);
        dueCross(1, r(1, 0, 0, 0, 0, 0), r(1, 0, -1), 0, 1, 0);
        dueCross(1, r(1, 0, 0, 0, 0, 0), r(0, 1, 0), 0, 0, 1);
        dueCross(0, r(1, 0, 0, 0, 0, 1), r(0, 1, 0));
        dueCross(1, r(1, 0, 0, 0, 0, 1), r(1, 0, 0), 0, 1, 0);
        dueCross(1, r(1, 0, 0, 0, 0, 1), r(0, 0, 1), 0, 1, 0);
        dueCross(3, r(0, 0, 0, 1, 2, 3), r(1, 2, 3));
        dueCross(1, r(0, 0, 0, 1, 2, 3), r(1, 2, 4), 2, -1, 0);
        dueCross(2, r(0, 0, 0, 1, 2, 3), r(1, 0, 0), 0, 1, 0, 0, 3, -2);
        dueCross(1, r(0, 0, 0, 0, 0, 1), r(1, 2, 3), 2, -1, 0);
        dueCross(4, r(1, 0, -2, 0, 0, 0), r(0, 1, -1));
        dueCross(1, r(1, 0, -2, 0, 0, 0), r(0, 1, 0), 0, 0, 1);
    }

    /** A circle, two lines, two lines not by whole numbers; lines with each answer of cross(). */
    private static ConicRows crossed() {
        return with(rows(r(1, 0, 1), r(0, 1, 1), r(-1, 0, 1), r(0, -1, 1), r(3, 4, 5), r(2, 3, 1)),
            rows(r(1, 0, 0), r(1, 0, -1), r(1, 0, -2), r(2, 0, -1), r(1, -1, 0)),
            rows(r(1, 0, 1, 0, 0, -1), r(1, 0, -1, 0, 0, 0), r(1, 0, -2, 0, 0, 0), r(1, 0, 0, 0, 0, 0), r(1, 0, 1, 0, 0, 0)));
    }

    /** Promise 22: "of the latest cross() that was not UNKNOWN, if it answered 1 or 2". */
    private static void crossingAfterEachAnswer() {
        int[][] next = {{0, 1, 1}, {0, 2, 0}, {0, 3, 4}, {1, 4, 3}};
        for (int[] call : next) {
            ConicRows x = crossed();
            due("two", x.cross(0, 0), 2);
            due("next", x.cross(call[0], call[1]), call[2]);
            if (call[2] == 1) {
                dueCrossing("after 1", x, 0, 1, 0, 1);
            } else {
                dueCrossing("after " + call[2], x, 0);
            }
            dueCrossing("after " + call[2], x, 1);
            due("UNKNOWN", x.cross(99, 0), UNKNOWN);
            due("k", x.crossing(0, 3), OUTSIDE);
            dueCrossing("after " + call[2] + " and UNKNOWN", x, 1);
            due("two again", x.cross(0, 0), 2);
            dueCrossing("two again", x, 0, 0, 1, -1);
            dueCrossing("two again", x, 1, 0, 1, 1);
        }
        int[][] unknown = {{5, 0}, {-1, 0}, {0, 5}, {0, -1}, {5, 5}, {Integer.MIN_VALUE, Integer.MAX_VALUE}};
        for (int[] call : unknown) {
            ConicRows x = crossed();
            due("before a cross()", x.cross(call[0], call[1]), UNKNOWN);
            dueCrossing("UNKNOWN is no cross()", x, 0);
            due("two", x.cross(0, 0), 2);
            due("UNKNOWN", x.cross(call[0], call[1]), UNKNOWN);
            dueCrossing("after UNKNOWN", x, 0, 0, 1, -1);
            dueCrossing("after UNKNOWN", x, 1, 0, 1, 1);
            dueCrossing("after UNKNOWN", x, 2);
        }
    }

    /** Promise 22: "of two the one with the lesser first number, of these second, third one, is the first". */
    private static void crossingOrder() {
        dueCross(2, r(1, 1, -6, 0, 0, 0), r(0, 0, 1), 2, 1, 0, 3, -1, 0);
        dueCross(2, r(1, -1, -6, 0, 0, 0), r(0, 0, 1), 2, -1, 0, 3, 1, 0);
        dueCross(2, r(1, 0, -1, 0, 0, 0), r(0, 0, 1), 1, -1, 0, 1, 1, 0);
        dueCross(2, r(0, 1, 0, 0, 0, 0), r(0, 0, 1), 0, 1, 0, 1, 0, 0);
        dueCross(2, r(0, 1, 0, 0, 0, -1), r(1, -1, 0), 1, 1, -1, 1, 1, 1);
        dueCross(2, r(0, 0, 0, 0, 1, 0), r(1, 0, 0), 0, 0, 1, 0, 1, 0);
        dueCross(2, r(0, 0, 1, 0, 0, -1), r(1, 0, 0), 0, 1, -1, 0, 1, 1);
        dueCross(2, r(0, 0, 2, 0, -5, 3), r(1, 0, 0), 0, 1, 1, 0, 3, 2);
        dueCross(2, r(1, 0, 0, 0, 0, -9), r(0, 1, 0), 3, 0, -1, 3, 0, 1);
        dueCross(2, r(1, 0, 0, -5, 0, 6), r(0, 1, -7), 2, 7, 1, 3, 7, 1);
    }

    private static void dueSplit(int want, int[] q, long... lines) {
        ConicRows x = with(rows(), rows(), rows(q));
        String what = "split of " + Arrays.toString(q);
        due(what, x.split(0), want);
        int found = lines.length / 3;
        due(what + ": the test's own number of lines", found, want == 1 || want == 2 ? want : 0);
        for (int i = 0; i < 3; i++) {
            duePart(what, x, i, i < found ? Arrays.copyOfRange(lines, 3 * i, 3 * i + 3) : new long[0]);
        }
        duePart(what, x, -1);
        ConicRows y = with(rows(), rows(), rows(r(-q[0], -q[1], -q[2], -q[3], -q[4], -q[5])));
        due(what + ", turned", y.split(0), want);
        for (int i = 0; i < found; i++) {
            duePart(what + ", turned", y, i, Arrays.copyOfRange(lines, 3 * i, 3 * i + 3));
        }
    }

    /** Promise 23: each answer beside its neighbours, with each unknown in turn. */
    private static void splitSideBySide() {
        dueSplit(2, r(1, 0, -1, 0, 0, 0), 1, -1, 0, 1, 1, 0);
        dueSplit(1, r(1, 0, 0, 0, 0, 0), 1, 0, 0);
        dueSplit(0, r(1, 0, 1, 0, 0, 0));
        dueSplit(4, r(1, 0, -2, 0, 0, 0));
        dueSplit(4, r(1, 0, -483, 0, 0, 0));
        dueSplit(2, r(1, 0, -484, 0, 0, 0), 1, -22, 0, 1, 22, 0);
        dueSplit(4, r(1, 0, -485, 0, 0, 0));
        dueSplit(4, r(1, 0, 0, 0, 0, -483));
        dueSplit(2, r(1, 0, 0, 0, 0, -484), 1, 0, -22, 1, 0, 22);
        dueSplit(4, r(1, 0, 0, 0, 0, -485));
        dueSplit(0, r(1, 0, 0, 0, 0, 1));
        dueSplit(4, r(0, 0, 1, 0, 0, -483));
        dueSplit(2, r(0, 0, 1, 0, 0, -484), 0, 1, -22, 0, 1, 22);
        dueSplit(4, r(0, 0, 1, 0, 0, -485));
        dueSplit(0, r(0, 0, 1, 0, 0, 1));
        dueSplit(1, r(0, 0, 1, 0, 0, 0), 0, 1, 0);
        dueSplit(1, r(0, 0, 0, 0, 0, 1), 0, 0, 1);
        dueSplit(2, r(0, 1, 0, 0, 0, 0), 0, 1, 0, 1, 0, 0);
        dueSplit(2, r(0, 0, 0, 1, 0, 0), 0, 0, 1, 1, 0, 0);
        dueSplit(2, r(0, 0, 0, 0, 1, 0), 0, 0, 1, 0, 1, 0);
        dueSplit(2, r(0, 0, 0, 500, 0, -499), 0, 0, 1, 500, 0, -499);
        dueSplit(2, r(0, 1, 0, 2, 3, 6), 0, 1, 2, 1, 0, 3);
        dueSplit(STATE, r(0, 1, 0, 2, 3, 5));
        dueSplit(STATE, r(0, 1, 0, 2, 3, 7));
        dueSplit(STATE, r(1, 0, 1, 0, 0, -1));
        dueSplit(STATE, r(1, 0, 1, 0, 0, 1));
        dueSplit(STATE, r(1, 0, 0, 0, 1, 0));
    }

    private static void splitOfGreatNumbers() {
        dueSplit(2, r(225, 480, 256, 450, 480, 224), 15, 16, 14, 15, 16, 16);
        dueSplit(1, r(225, 480, 256, 450, 480, 225), 15, 16, 15);
        dueSplit(0, r(225, 480, 256, 450, 480, 226));
        dueSplit(4, r(225, 480, 256, 450, 480, 223));
        dueSplit(STATE, r(225, 480, 256, 451, 480, 225));
        dueSplit(1, r(256, -416, 169, -416, 338, 169), 16, -13, -13);
        dueSplit(2, r(270, -493, 225, 436, -398, 176), 10, -9, 8, 27, -25, 22);
        dueSplit(2, r(230, -379, 156, 470, -387, 240), 5, -4, 5, 46, -39, 48);
        dueSplit(2, r(500, 499, 0, -500, 0, 0), 1, 0, 0, 500, 499, -500);
        dueSplit(4, r(272, -496, 226, -408, 372, 153));
        dueSplit(4, r(381, 372, -377, -261, -255, 36));
        dueSplit(0, r(211, 451, 241, -451, -482, 241));
        dueSplit(0, r(185, -344, 160, 482, -448, 314));
        // DET -1, 1 and 2.
        dueSplit(STATE, r(287, -439, 168, 439, -335, 169));
        dueSplit(STATE, r(361, 374, -251, 216, 253, 18));
        dueSplit(STATE, r(494, -212, -265, 447, -380, 31));
        dueSplit(STATE, r(155, -395, 267, 317, -438, 181));
    }

    /** Promise 24: "of the latest split() that was not refused, if it answered 1 or 2". */
    private static void partAfterEachAnswer() {
        int[][] next = {{2, 4}, {3, 1}, {4, 0}};
        for (int[] call : next) {
            ConicRows x = crossed();
            due("two", x.split(1), 2);
            due("next", x.split(call[0]), call[1]);
            if (call[1] == 1) {
                duePart("after 1", x, 0, 1, 0, 0);
            } else {
                duePart("after " + call[1], x, 0);
            }
            duePart("after " + call[1], x, 1);
            due("STATE", x.split(0), STATE);
            due("UNKNOWN", x.split(99), UNKNOWN);
            due("k", x.part(0, 3), OUTSIDE);
            duePart("after " + call[1] + " and a refused one", x, 1);
            due("two again", x.split(1), 2);
            duePart("two again", x, 0, 1, -1, 0);
            duePart("two again", x, 1, 1, 1, 0);
        }
        int[] refused = {0, 5, -1, Integer.MIN_VALUE, Integer.MAX_VALUE};
        for (int c : refused) {
            ConicRows x = crossed();
            due("before a split()", x.split(c), c == 0 ? STATE : UNKNOWN);
            duePart("a refused one is no split()", x, 0);
            due("two", x.split(1), 2);
            due("refused", x.split(c), c == 0 ? STATE : UNKNOWN);
            duePart("after a refused one", x, 0, 1, -1, 0);
            duePart("after a refused one", x, 1, 1, 1, 0);
            duePart("after a refused one", x, 2);
        }
    }

    /** Promise 24: "in the order as of crossing()". */
    private static void partOrder() {
        dueSplit(2, r(6, 11, -72, 11, -144, -72), 2, 9, 9, 3, -8, -8);
        dueSplit(2, r(6, 7, 2, 11, 7, 3), 2, 1, 3, 3, 2, 1);
        dueSplit(2, r(1, 0, -4, 3, -6, 0), 1, -2, 0, 1, 2, 3);
        dueSplit(2, r(1, 4, 4, 1, 2, -6), 1, 2, -2, 1, 2, 3);
        dueSplit(2, r(0, 2, -5, 6, -14, 3), 0, 1, 3, 2, -5, 1);
        dueSplit(2, r(0, 0, 2, 0, 5, -3), 0, 1, 3, 0, 2, -1);
    }

    /** What cross() and split() found stays, whatever else is asked: other calls have rows of their own. */
    private static void crossingAndPartAreApart() {
        for (int other = 0; other < 24; other++) {
            ConicRows x = crossed();
            due("cross", x.cross(0, 0), 2);
            due("split", x.split(1), 2);
            askOther(x, other);
            dueCrossing("after call " + other, x, 0, 0, 1, -1);
            dueCrossing("after call " + other, x, 1, 0, 1, 1);
            dueCrossing("after call " + other, x, 2);
            duePart("after call " + other, x, 0, 1, -1, 0);
            duePart("after call " + other, x, 1, 1, 1, 0);
            duePart("after call " + other, x, 2);
        }
        ConicRows x = crossed();
        due("split", x.split(1), 2);
        dueCrossing("split() is no cross()", x, 0);
        due("cross", x.cross(0, 1), 1);
        duePart("after cross()", x, 1, 1, 1, 0);
        ConicRows y = crossed();
        due("cross", y.cross(0, 0), 2);
        duePart("cross() is no split()", y, 0);
        due("split", y.split(3), 1);
        dueCrossing("after split()", y, 1, 0, 1, 1);
    }

    private static void askOther(ConicRows x, int other) {
        switch (other) {
            case 0: due("point", x.point(7, 8, 9), 6); break;
            case 1: due("line", x.line(7, 8, 9), 5); break;
            case 2: due("conic", x.conic(7, 8, 9, 1, 2, 3), 5); break;
            case 3: due("count", x.count(2), 5); break;
            case 4: due("number", x.number(0, 5, 1), 3); break;
            case 5: due("join", x.join(0, 5), 5); break;
            case 6: due("meet", x.meet(1, 4), 6); break;
            case 7: due("on", x.on(1, 1, 0), 1); break;
            case 8: due("on", x.on(2, 0, 4), 1); break;
            case 9: due("five", x.five(0, 1, 2, 3, 4), 5); break;
            case 10: due("five", x.five(0, 1, 2, 3, 0), STATE); break;
            case 11: due("kind", x.kind(2), 4); break;
            case 12: due("told", x.told(0, 0), -4); break;
            case 13: due("round", x.round(0), 1); break;
            case 14: due("polar", x.polar(0, 5), 5); break;
            case 15: due("pole", x.pole(0, 2), 6); break;
            case 16: due("centre", x.centre(0), 6); break;
            case 17: due("dual", x.dual(0), 5); break;
            case 18: due("member", x.member(0, 1, 1, 1), 5); break;
            case 19: due("through", x.through(0, 1, 5), 5); break;
            case 20: due("cubic", x.cubic(0, 1, 2), 4); break;
            case 21: due("point", x.point(501, 1, 1), LARGE); break;
            case 22: due("conic", x.conic(0, 0, 0, 0, 0, 0), OUTSIDE); break;
            default: due("member", x.member(0, 0, 1, -1), STATE); break;
        }
    }
}
