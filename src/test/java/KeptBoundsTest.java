import java.util.Arrays;

/**
 * What is kept: "60 of each at most", "numbered as they come (also such as are there already)", "with
 * numbers of -500 to 500. What would have others is LARGE: it is not kept"; for each of the twelve
 * calls that keep something.
 */
public final class KeptBoundsTest {
    private static final int POINTS = 0;
    private static final int LINES = 1;
    private static final int CONICS = 2;
    private static final int[] WIDTHS = {3, 3, 6};

    // Each row: what the call is given, then what comes of it. Each number of that is in one row just at
    // the bound, in the next one the only one beyond it, and by as little as can be.
    private static final int[][] JOIN = {
        {0, 20, -1, 1, 0, -25, 500, 1, 20},
        {2, 1, -25, 1, -20, -1, 501, 23, 41},
        {0, 1, 20, 25, 0, 1, 1, 500, -25},
        {1, 3, -25, 20, -1, 1, 22, 501, 61},
        {20, 1, 0, 1, 3, -25, 25, -500, -59},
        {25, 1, 1, 1, 0, -20, 20, -501, 1},
        {0, 20, -1, 25, -1, 0, 1, 25, 500},
        {3, 14, -1, 36, 1, -1, 13, 33, 501},
        {25, -1, 0, 0, 20, 1, 1, 25, -500},
        {18, 1, 2, 3, 28, -3, 59, -60, -501}};
    private static final int[][] POLAR = {
        {19, -3, 3, 0, -1, -1, 13, -2, 0, 500, -51, 2},
        {18, 0, 4, 1, 0, -1, 14, -4, -3, 501, -32, 20},
        {2, 0, -21, -3, -2, -1, 5, -12, 2, 14, 500, 5},
        {0, 3, 19, 1, -2, -3, 3, -13, 8, 31, 501, 19},
        {1, 0, -28, -1, -2, 4, 1, 9, -2, 4, -500, -35},
        {1, 5, -23, 2, 0, 3, 1, 11, -1, 55, -501, -4},
        {1, 0, 0, 5, 1, 13, 1, 1, 19, 97, 19, 500},
        {1, -2, -6, 0, 3, -28, 1, -1, -9, 4, -17, 501},
        {1, 1, 0, -2, 6, 13, 3, 0, -19, 44, -111, -500},
        {3, 2, -4, 0, 1, -14, 1, 3, 18, 12, -4, -501}};
    private static final int[][] POLE = {
        {2, 1, -3, -1, 4, 4, 8, -1, 0, 500, 127, -1},
        {0, 3, 3, -1, 3, 8, 6, 1, 2, 501, -313, 69},
        {2, -2, -1, 0, -3, -5, 1, 12, 0, 229, 500, -150},
        {1, 1, 0, 11, -2, 1, 2, 4, 1, 106, 501, -55},
        {0, 1, 0, 8, 3, 1, 2, -7, 1, 169, -500, 51},
        {1, 0, -1, 5, 3, -2, 0, 15, 1, 235, -501, -94},
        {7, 0, 2, -1, -4, -2, 1, -3, -6, 68, 161, 500},
        {1, -13, -2, 2, 3, 1, 2, -1, -3, 27, 160, 501},
        {12, -2, 11, -1, 0, 1, 1, 1, -1, 26, 49, -500},
        {0, 11, 1, -3, 4, -2, 1, 1, -4, 192, -155, -501}};
    private static final int[][] CENTRE = {
        {3, -1, 25, 10, 0, 0, 500, 10, -299},
        {1, -3, -18, 14, 1, -1, 501, -44, -81},
        {20, -5, 4, 4, 12, -1, 92, 500, -295},
        {18, -1, 1, -3, 14, -1, 8, 501, -71},
        {16, 5, 1, 4, -15, 1, 83, -500, -39},
        {25, 1, -3, -1, 10, 0, 4, -501, -301},
        {2, 32, 3, -1, -1, 0, 13, 14, 500},
        {3, -21, -5, -1, 0, -1, 10, -21, 501},
        {3, -32, 2, -1, -1, 0, 18, 19, -500},
        {7, 5, -17, 1, 0, 1, 34, 5, -501}};
    private static final int[][] DUAL = {
        {1, 1, -14, 1, -2, -9, 500, 32, -37, 52, 10, -57},
        {0, 0, 5, -1, 21, -3, 501, 42, 1, -20, 0, 0},
        {0, 14, -2, 1, -2, -9, 68, 500, -1, -48, 28, -196},
        {1, 9, -2, -1, -1, 14, 113, 502, -55, 26, 14, 89},
        {0, 7, 1, -1, 2, -18, 76, -500, 1, -32, 14, 49},
        {0, 7, 0, 1, -1, -18, 1, -502, 1, 14, -14, 49},
        {2, 0, 0, 22, -1, -2, 1, 44, 500, 0, -8, 0},
        {17, -1, 2, -5, 0, -7, 56, 28, 501, -40, -10, -135},
        {2, 0, -1, -22, -1, -2, 7, 44, -500, -88, 8, -8},
        {1, 1, 1, -23, 0, 7, 28, -28, -501, 92, -46, 3},
        {0, 1, -14, -9, 2, 0, 4, 36, 81, 500, 18, 1},
        {1, -1, -14, 9, 1, -1, 55, 14, -85, 502, -22, -57},
        {0, 2, 9, -14, -1, 0, 1, -28, 196, -500, 56, 4},
        {0, 1, -14, 9, -1, 0, 1, 18, 81, -502, -18, 1},
        {9, -1, 0, -2, 14, -1, 196, 60, 40, 28, 500, 1},
        {14, 1, 0, 1, 9, -2, 81, -26, 113, -18, 502, 1},
        {14, 2, 0, -1, -9, 1, 81, -10, -55, 36, -500, 4},
        {14, 1, 1, -1, -9, 0, 81, -18, 1, 14, -502, -55},
        {1, 22, -4, 1, 0, 0, 0, 0, 1, -16, -44, 500},
        {7, 23, 1, 0, -1, 0, 1, 0, 0, 46, -28, 501},
        {14, -2, 9, 0, -1, -2, 73, 16, 112, -4, -56, -500},
        {17, 5, -7, 0, 2, -1, 24, 20, -68, 20, -136, -501}};
    private static final int[][] MEMBER = {
        {3, -1, -1, 0, -2, 8, 46, 4, 2, 3, 1, 0, 2, -11, 500, 46, 24, 33, 15, -16},
        {39, 0, -6, 7, 0, 0, 6, -2, -6, -1, 9, 1, -13, 1, 501, 2, -72, 92, -9, -1},
        {30, 46, -2, -2, 3, -6, 5, -2, 3, 0, -2, -2, 11, 3, 345, 500, -13, -22, 27, -72},
        {0, 39, 0, -3, 1, -3, 11, -2, -1, -1, -7, 1, -13, -3, 33, 501, -3, -42, -8, -36},
        {2, -35, -2, -1, -6, 4, 0, 9, 2, 3, 2, 3, -13, 5, 26, -500, -36, -28, -88, 37},
        {15, -30, -17, 1, 1, 1, 10, 3, 0, 4, 3, 5, -17, -3, 285, -501, -289, 29, 26, 32},
        {1, -1, 6, 0, -1, 2, 10, -1, 26, 0, 2, -1, 1, 19, 191, -20, 500, 0, 37, -17},
        {0, 2, 29, 24, -15, -2, 1, -1, 4, 1, 0, 0, 17, 2, 2, 32, 501, 410, -255, -34},
        {4, 1, -46, 0, 3, 0, 0, 1, -2, 5, 18, -1, 11, -3, 44, 8, -500, -15, -21, 3},
        {4, 1, -46, -5, 4, 0, 1, -2, -5, 4, 2, -1, -11, 1, 43, 13, -501, -59, 42, 1},
        {1, -8, -12, 50, 7, 0, 1, -3, 1, 0, -18, 1, 10, 7, 17, -101, -113, 500, -56, 7},
        {1, 0, -8, -3, -5, -2, 2, 1, 1, 14, 1, 0, -1, -36, 73, 36, 28, 501, 31, -2},
        {1, -5, -1, -42, 32, 1, 3, 2, 1, -4, -1, 20, 12, -1, 9, -62, -13, -500, 385, -8},
        {1, 3, -1, -3, 20, -1, 10, 0, -1, -42, 2, -1, -2, 24, 119, -3, -11, -501, 4, -11},
        {3, -9, 0, -1, 50, 0, 3, 0, -2, 0, 0, -17, 10, -3, 21, -90, 6, -10, 500, 51},
        {8, 2, 0, 0, 25, 0, 13, 8, -13, -7, 1, 1, 20, 1, 173, 48, -13, -7, 501, 1},
        {2, -15, -1, -5, -14, 1, 2, -1, -1, 3, 19, 0, 33, -2, 62, -493, -31, -171, -500, 33},
        {1, 6, 2, -8, 1, 9, 3, -2, -3, -1, -16, 2, 5, -31, 88, -92, -103, 9, -501, 17},
        {2, 2, -3, 0, 0, 20, 4, 20, 2, -1, 1, 0, 25, 1, 54, 70, -73, -1, 1, 500},
        {0, 6, -3, -1, 16, 20, 5, 2, 0, 1, 3, 1, 25, 1, 5, 152, -75, -24, 403, 501},
        {0, 1, 4, -8, 0, -20, 6, -1, -2, -2, 0, 0, 25, 4, 24, 21, 92, -208, 0, -500},
        {1, 2, 5, 0, 1, -31, 2, 42, -10, 10, 1, -1, -16, -5, 26, 242, 30, 50, 21, -501}};
    private static final int[][] THROUGH = {
        {5, 3, 3, -1, -3, -1, 0, 0, 1, 1, -33, 0, 0, 1, -3, 500, 300, 297, -103, -201, -100},
        {3, -1, 1, -1, -43, 5, 30, 9, -2, 4, -3, -1, 1, 0, -3, 501, 156, -37, 71, 78, -32},
        {2, -5, 3, -6, -1, -1, 34, 15, 1, -1, 1, 1, 7, -2, 0, 160, 500, -210, 429, 82, 82},
        {20, 257, 0, -18, 14, 1, 1, 1, 1, 0, -1, 5, 1, 0, -1, 27, 501, -13, -36, 41, -63},
        {4, 22, 3, -20, -2, 2, 0, 4, -1, -3, -1, -2, 29, 4, 0, 64, -500, 261, 319, 181, 458},
        {24, -429, -1, -2, 0, -7, 2, -9, -3, -30, -2, 2, 0, 1, -1, 40, -501, -25, -242, -16, 9},
        {1, 17, 19, -9, 2, 0, 14, -239, -234, 6, 1, -95, 1, 0, 0, 0, 477, 500, -132, 27, 95},
        {15, 1, -3, -12, 2, 44, 2, 9, 33, 5, -6, 0, 1, 0, 0, 0, 133, 501, 99, -94, -88},
        {0, 5, -5, 85, 2, -3, 3, 0, -4, -4, 3, 0, 4, 8, 7, 345, 40, -500, 220, 361, -24},
        {4, -43, 250, -1, -4, -112, 8, -10, -1, 0, -33, 16, 1, 0, 0, 0, 76, -501, 2, -25, 240},
        {2, 6, -5, 1, 1, 1, 1, 6, -1, 13, -11, -2, 7, -5, 1, 25, 192, -4, 500, -436, -85},
        {2, 0, 13, 15, -1, -7, 1, 0, 4, -1, 4, 2, 2, -2, -1, 43, 0, 332, 501, -116, -266},
        {2, -1, 0, 19, -56, 2, 0, 3, 2, 12, -7, -1, 2, 3, -1, 32, -217, -134, -500, -427, 99},
        {18, -7, -2, 1, -14, -11, 4, 11, 2, -22, 14, 2, 1, -1, 0, 182, 218, 36, -501, 252, -9},
        {2, -1, -1, 0, 16, 0, 2, -7, 3, -8, 2, 1, 5, -2, 0, 38, 65, -75, 112, 500, -14},
        {1, -2, 2, 0, 3, 2, 3, 1, 3, 1, -6, -15, 5, 7, -4, 162, -331, 327, -1, 501, 345},
        {9, -2, -7, 0, -26, -2, 9, 11, 7, 1, -2, 0, 2, 2, 3, 414, 285, 84, 29, -500, -34},
        {0, 2, -5, -1, -15, 5, 1, -1, -1, 0, 3, 1, 1, 5, -3, 158, -28, -483, -65, -501, 483},
        {2, 0, 0, 4, 1, -14, 4, -1, -2, -2, -1, 2, 1, -40, -17, 70, -33, -66, -190, -64, 500},
        {2, 0, 0, 1, 3, 3, 1, -15, 2, 2, 2, -6, 1, -6, 0, 324, 30, -4, 159, 485, 501},
        {4, -1, 9, -2, 3, -73, 0, 3, -1, 0, -2, 2, 0, 2, 1, 24, -99, 85, -12, 80, -500},
        {0, 1, -1, 0, -2, 8, 18, 2, -2, -16, 1, 1, 3, 3, -2, 198, -42, 42, -176, 139, -501}};
    private static final int[][] FIVE = {
        {0, 1, -1, 2, 1, 3, 1, 0, -2, 2, -3, -2, 1, 1, 0, 500, -318, -182, 72, -271, -89},
        {3, 2, 3, 0, 1, -1, 2, 0, -3, 1, -1, -1, 1, 1, 0, 501, -300, -201, 139, -331, -130},
        {1, -1, -1, 1, 1, 3, 3, -1, 2, 0, 1, 0, 1, 2, -2, 334, 500, 0, -79, 230, -143},
        {2, 1, 1, 1, -2, 1, 0, 2, 1, 1, -1, 4, 1, 0, 0, 0, 501, 169, -426, -357, 38},
        {1, -2, 2, 1, 0, -1, 1, 4, 0, 2, 1, 1, 2, 0, -1, 32, -500, 123, 96, 493, 64},
        {1, 5, 2, 1, 1, -1, 2, 0, 1, 0, 1, -1, 0, 1, -2, 161, -501, 72, -340, 108, 36},
        {4, -1, 5, 0, 1, 1, 5, 0, -1, 0, 1, -2, 1, 1, -1, 33, -418, 500, 115, -250, -250},
        {3, -2, -1, 1, -1, 2, 2, 0, -1, 3, -1, 0, 1, 1, 1, 19, 224, 501, -83, -419, -242},
        {2, 1, 0, 2, 0, -3, 0, 1, 2, 0, 1, -1, 5, -2, -1, 159, -68, -500, 481, -250, 250},
        {2, -1, 1, 1, 2, -3, 1, 1, 1, 0, 2, 3, 1, 0, 0, 0, 90, -501, 200, -35, 246},
        {1, 0, -2, 2, 0, -1, 1, 1, -1, 1, -4, 0, 0, 5, 1, 200, 54, 1, 500, -45, 200},
        {1, 2, -1, 1, -1, -2, 2, 0, -1, 1, 1, 0, 0, 5, 2, 193, -233, 40, 501, -192, 230},
        {1, -2, 0, 0, 1, 2, 0, 0, 1, 3, 5, -3, 2, 0, 1, 250, -151, -138, -500, 69, 0},
        {0, 3, -2, 1, -2, -1, 0, 1, -1, 3, 1, 0, 2, 2, -1, 139, -373, -132, -501, -330, -198},
        {0, 0, 1, 5, -1, 0, 0, 5, -2, 2, 1, -3, 1, 0, 1, 61, 345, 200, -61, 500, 0},
        {0, 3, -1, 3, -1, -1, 1, 1, -1, 1, 0, 0, 1, -1, 4, 0, 241, 153, 19, 501, 126},
        {1, 0, -1, 3, 1, 1, 2, -1, 3, 1, -3, -2, 1, 0, 0, 0, 169, 413, -105, -500, -105},
        {0, 2, -1, 3, -2, -1, 2, 1, 1, 2, 0, 3, 1, -1, 0, 213, -14, -227, -1, -501, -94},
        {2, 5, -1, 1, -3, 0, 0, 4, -3, 1, 0, 0, 1, -1, 1, 0, 81, 27, -35, 411, 500},
        {5, -1, -2, 1, 1, 0, 1, -2, -2, 2, 3, -3, 0, 1, -1, 108, 259, -367, 331, 134, 501},
        {0, 5, -1, 3, -2, -1, 2, 0, -1, 1, 1, 1, 1, 0, 0, 0, 244, 101, -250, 405, -500},
        {3, -1, 1, 1, 0, -1, 0, 1, 1, 3, 2, 0, 1, -3, 2, 74, -325, 321, -427, 180, -501}};

    private static int wrong = 0;

    /** One call that keeps something, on an object that has all it needs. */
    private interface Keeper {
        int keep(ConicRows x);
    }

    public static void main(String[] args) {
        givenNumbers();
        givenConicNumbers();
        joinedAndMet();
        polars();
        poles();
        centres();
        duals();
        members();
        throughs();
        fives();
        numberedAsTheyCome();
        sameNumbersBySeveralCalls();
        sixtyOfEach();
        eachSortHasItsOwnRoom();
        largeLeavesTheNextNumberFree();
        System.out.println(wrong == 0 ? "all answers are as due" : wrong + " answers are not as due");
        if (wrong != 0) {
            System.exit(1);
        }
    }

    private static void due(String call, long got, long want) {
        if (got != want) {
            wrong++;
            System.out.println(call + " answered " + got + ", due is " + want);
        }
    }

    private static void dueNumbers(String what, ConicRows x, int sort, int i, int... want) {
        for (int k = 0; k < want.length; k++) {
            due(what + ": number(" + sort + ", " + i + ", " + k + ")", x.number(sort, i, k), want[k]);
        }
    }

    private static boolean isLarge(int... numbers) {
        for (int n : numbers) {
            if (n < -500 || n > 500) {
                return true;
            }
        }
        return false;
    }

    private static int[] after(int from, int[] row) {
        return Arrays.copyOfRange(row, from, row.length);
    }

    /** One with numbers of -500 to 500 has been kept as the next of its sort, another one has not. */
    private static void dueKept(String what, ConicRows x, int sort, int got, int before, int... numbers) {
        String call = what + " of " + Arrays.toString(numbers);
        if (isLarge(numbers)) {
            due(call, got, ConicRows.LARGE);
            due(call + ": count", x.count(sort), before);
        } else {
            due(call, got, before);
            due(call + ": count", x.count(sort), before + 1);
            dueNumbers(call, x, sort, before, numbers);
        }
    }

    private static void point(ConicRows x, int from, int... n) {
        due("point", x.point(n[from], n[from + 1], n[from + 2]) >= 0 ? 0 : 1, 0);
    }

    private static void line(ConicRows x, int from, int... n) {
        due("line", x.line(n[from], n[from + 1], n[from + 2]) >= 0 ? 0 : 1, 0);
    }

    private static void conic(ConicRows x, int from, int... n) {
        int made = x.conic(n[from], n[from + 1], n[from + 2], n[from + 3], n[from + 4], n[from + 5]);
        due("conic", made >= 0 ? 0 : 1, 0);
    }

    private static void givenTriple(int[] given, int[] numbers) {
        ConicRows x = new ConicRows();
        dueKept("point", x, POINTS, x.point(given[0], given[1], given[2]), 0, numbers);
        dueKept("line", x, LINES, x.line(given[0], given[1], given[2]), 0, numbers);
    }

    private static void givenNumbers() {
        for (int k = 0; k < 3; k++) {
            for (int n : new int[] {500, 501, 999, 1000, -500, -501, -999, -1000}) {
                int[] given = {1, 1, 1};
                given[k] = n;
                // The first number is to be above 0.
                int sign = given[0] < 0 ? -1 : 1;
                givenTriple(given, new int[] {sign * given[0], sign * given[1], sign * given[2]});
                int[] alone = {0, 0, 0};
                alone[k] = n;
                int[] one = {0, 0, 0};
                one[k] = 1;
                givenTriple(alone, one);
            }
            int[] halved = {2, 2, 2};
            halved[k] = 1000;
            int[] half = {1, 1, 1};
            half[k] = 500;
            givenTriple(halved, half);
            halved[k] = k == 0 ? 1000 : -1000;
            half[k] = k == 0 ? 500 : -500;
            givenTriple(halved, half);
        }
        givenTriple(new int[] {1000, 1000, 1000}, new int[] {1, 1, 1});
        givenTriple(new int[] {-1000, -1000, -1000}, new int[] {1, 1, 1});
        givenTriple(new int[] {1000, -1000, 998}, new int[] {500, -500, 499});
        givenTriple(new int[] {1000, -1000, 999}, new int[] {1000, -1000, 999});
    }

    private static void givenConic(int[] g, int[] numbers) {
        ConicRows x = new ConicRows();
        dueKept("conic", x, CONICS, x.conic(g[0], g[1], g[2], g[3], g[4], g[5]), 0, numbers);
    }

    private static void givenConicNumbers() {
        for (int k = 0; k < 6; k++) {
            for (int n : new int[] {500, 501, 999, 1000, -500, -501, -999, -1000}) {
                int[] given = {1, 1, 1, 1, 1, 1};
                given[k] = n;
                int[] numbers = new int[6];
                int[] alone = new int[6];
                int[] one = new int[6];
                for (int j = 0; j < 6; j++) {
                    numbers[j] = given[0] < 0 ? -given[j] : given[j];
                }
                givenConic(given, numbers);
                alone[k] = n;
                one[k] = 1;
                givenConic(alone, one);
            }
            int[] halved = {2, 2, 2, 2, 2, 2};
            halved[k] = 1000;
            int[] half = {1, 1, 1, 1, 1, 1};
            half[k] = 500;
            givenConic(halved, half);
        }
    }

    private static void joinedAndMet() {
        for (int[] r : JOIN) {
            ConicRows x = new ConicRows();
            point(x, 0, r);
            point(x, 3, r);
            dueKept("join", x, LINES, x.join(0, 1), 0, after(6, r));
            ConicRows y = new ConicRows();
            line(y, 0, r);
            line(y, 3, r);
            dueKept("meet", y, POINTS, y.meet(0, 1), 0, after(6, r));
        }
    }

    private static void polars() {
        for (int[] r : POLAR) {
            ConicRows x = new ConicRows();
            conic(x, 0, r);
            point(x, 6, r);
            dueKept("polar", x, LINES, x.polar(0, 0), 0, after(9, r));
        }
    }

    private static void poles() {
        for (int[] r : POLE) {
            ConicRows x = new ConicRows();
            conic(x, 0, r);
            line(x, 6, r);
            dueKept("pole", x, POINTS, x.pole(0, 0), 0, after(9, r));
        }
    }

    private static void centres() {
        for (int[] r : CENTRE) {
            ConicRows x = new ConicRows();
            conic(x, 0, r);
            dueKept("centre", x, POINTS, x.centre(0), 0, after(6, r));
        }
    }

    private static void duals() {
        for (int[] r : DUAL) {
            ConicRows x = new ConicRows();
            conic(x, 0, r);
            dueKept("dual", x, CONICS, x.dual(0), 1, after(6, r));
        }
    }

    private static void members() {
        for (int[] r : MEMBER) {
            ConicRows x = new ConicRows();
            conic(x, 0, r);
            conic(x, 6, r);
            dueKept("member", x, CONICS, x.member(0, 1, r[12], r[13]), 2, after(14, r));
        }
    }

    private static void throughs() {
        for (int[] r : THROUGH) {
            ConicRows x = new ConicRows();
            conic(x, 0, r);
            conic(x, 6, r);
            point(x, 12, r);
            dueKept("through", x, CONICS, x.through(0, 1, 0), 2, after(15, r));
        }
    }

    private static void fives() {
        for (int[] r : FIVE) {
            ConicRows x = new ConicRows();
            for (int from = 0; from < 15; from += 3) {
                point(x, from, r);
            }
            dueKept("five", x, CONICS, x.five(0, 1, 2, 3, 4), 0, after(15, r));
        }
    }

    /** "(also such as are there already)": none is found again under an older number. */
    private static void numberedAsTheyCome() {
        ConicRows x = new ConicRows();
        for (int i = 0; i < 3; i++) {
            due("point again", x.point(1, 2, 3), i);
            due("line again", x.line(1, 2, 3), i);
            due("conic again", x.conic(1, 2, 3, 4, 5, 7), i);
            dueNumbers("point again", x, POINTS, i, 1, 2, 3);
            dueNumbers("line again", x, LINES, i, 1, 2, 3);
            dueNumbers("conic again", x, CONICS, i, 1, 2, 3, 4, 5, 7);
        }
        due("so many times it", x.point(-300, -600, -900), 3);
        dueNumbers("so many times it", x, POINTS, 3, 1, 2, 3);
        due("the member is there already", x.member(0, 1, 1, 0), 3);
        due("the member is there already", x.member(0, 1, 3, 4), 4);
        dueNumbers("the member is there already", x, CONICS, 4, 1, 2, 3, 4, 5, 7);
    }

    /** The sorts are numbered each for itself, whichever call keeps one. */
    private static void sameNumbersBySeveralCalls() {
        ConicRows x = basis();
        int points = x.count(POINTS);
        int lines = x.count(LINES);
        int conics = x.count(CONICS);
        due("meet", x.meet(0, 1), points);
        due("join", x.join(0, 1), lines);
        due("dual", x.dual(0), conics);
        due("pole", x.pole(0, 0), points + 1);
        due("polar", x.polar(0, 0), lines + 1);
        due("member", x.member(0, 1, 1, 1), conics + 1);
        due("centre", x.centre(0), points + 2);
        due("line", x.line(1, 1, 1), lines + 2);
        due("through", x.through(0, 1, 5), conics + 2);
        due("point", x.point(1, 1, 1), points + 3);
        due("five", x.five(0, 1, 2, 3, 4), conics + 3);
        due("conic", x.conic(1, 1, 1, 1, 1, 1), conics + 4);
    }

    /** Six points (five of them on the first conic), two lines, two conics: enough for each keeper. */
    private static ConicRows basis() {
        ConicRows x = new ConicRows();
        int[][] points = {{1, 0, 1}, {0, 1, 1}, {-1, 0, 1}, {0, -1, 1}, {3, 4, 5}, {2, 3, 1}};
        for (int[] p : points) {
            point(x, 0, p);
        }
        line(x, 0, 1, 2, 0);
        line(x, 0, 0, 1, -3);
        conic(x, 0, 1, 0, 1, 0, 0, -1);
        conic(x, 0, 0, 1, 0, 0, 0, 0);
        return x;
    }

    private static ConicRows filledTo(int size, int sort) {
        ConicRows x = basis();
        for (int i = x.count(sort); i < size; i++) {
            if (sort == POINTS) {
                point(x, 0, i, 7, 1);
            } else if (sort == LINES) {
                line(x, 0, i, 7, 1);
            } else {
                conic(x, 0, i, 7, 1, 2, 3, 5);
            }
        }
        due("filled", x.count(sort), size);
        return x;
    }

    /** The 60th is kept with the number 59, the 61st is ROOM and changes nothing. */
    private static void dueSixty(String what, int sort, Keeper keeper, int... numbers) {
        ConicRows x = filledTo(59, sort);
        due(what + ": the 60th", keeper.keep(x), 59);
        due(what + ": count", x.count(sort), 60);
        due(what + ": the 61st", keeper.keep(x), ConicRows.ROOM);
        due(what + ": the 61st again", keeper.keep(x), ConicRows.ROOM);
        due(what + ": count of the full", x.count(sort), 60);
        dueNumbers(what + ": the 60th", x, sort, 59, numbers);
        due(what + ": no 61st", x.number(sort, 60, 0), ConicRows.UNKNOWN);
        ConicRows twin = filledTo(59, sort);
        for (int i = 50; i < 59; i++) {
            for (int k = 0; k < WIDTHS[sort]; k++) {
                due(what + ": an earlier one", x.number(sort, i, k), twin.number(sort, i, k));
            }
        }
    }

    private static void sixtyOfEach() {
        dueSixty("point", POINTS, x -> x.point(2, 4, 8), 1, 2, 4);
        dueSixty("line", LINES, x -> x.line(2, 4, 8), 1, 2, 4);
        dueSixty("conic", CONICS, x -> x.conic(2, 4, 8, 0, 0, 2), 1, 2, 4, 0, 0, 1);
        dueSixty("join", LINES, x -> x.join(0, 1), 1, 1, -1);
        dueSixty("meet", POINTS, x -> x.meet(0, 1), 6, -3, -1);
        dueSixty("five", CONICS, x -> x.five(0, 1, 2, 3, 4), 1, 0, 1, 0, 0, -1);
        dueSixty("polar", LINES, x -> x.polar(0, 5), 2, 3, -1);
        dueSixty("pole", POINTS, x -> x.pole(0, 1), 0, 1, 3);
        dueSixty("centre", POINTS, x -> x.centre(0), 0, 0, 1);
        dueSixty("dual", CONICS, x -> x.dual(0), 1, 0, 1, 0, 0, -1);
        dueSixty("member", CONICS, x -> x.member(0, 1, 2, 1), 2, 1, 2, 0, 0, -2);
        dueSixty("through", CONICS, x -> x.through(0, 1, 5), 1, -2, 1, 0, 0, -1);
    }

    /** 60 of one sort leave the others as free as before. */
    private static void eachSortHasItsOwnRoom() {
        ConicRows x = filledTo(60, POINTS);
        due("points are full: line", x.line(1, 1, 1), 2);
        due("points are full: conic", x.conic(1, 1, 1, 1, 1, 1), 2);
        due("points are full: join", x.join(0, 59), 3);
        due("points are full: meet", x.meet(0, 1), ConicRows.ROOM);
        ConicRows y = filledTo(60, LINES);
        due("lines are full: point", y.point(1, 1, 1), 6);
        due("lines are full: meet", y.meet(0, 59), 7);
        due("lines are full: join", y.join(0, 1), ConicRows.ROOM);
        ConicRows z = filledTo(60, CONICS);
        due("conics are full: centre", z.centre(0), 6);
        due("conics are full: polar", z.polar(0, 0), 2);
        due("conics are full: pole", z.pole(0, 2), 7);
        due("conics are full: dual", z.dual(0), ConicRows.ROOM);
    }

    /** LARGE "is not kept": the next one has the number and the place that it would have had. */
    private static void largeLeavesTheNextNumberFree() {
        ConicRows x = new ConicRows();
        due("point", x.point(1, 2, 3), 0);
        due("large point", x.point(501, 499, 498), ConicRows.LARGE);
        due("next point", x.point(4, 5, 6), 1);
        dueNumbers("next point", x, POINTS, 1, 4, 5, 6);
        due("large line", x.line(0, 1, -501), ConicRows.LARGE);
        due("next line", x.line(0, 0, 9), 0);
        dueNumbers("next line", x, LINES, 0, 0, 0, 1);
        due("large conic", x.conic(0, 1, 2, 3, 4, 501), ConicRows.LARGE);
        due("next conic", x.conic(0, 0, 0, 0, 7, 0), 0);
        dueNumbers("next conic", x, CONICS, 0, 0, 0, 0, 0, 1, 0);
    }
}
