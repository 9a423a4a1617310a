/**
 * Points, lines and conics by whole numbers, also such as lie at infinity.
 *
 * <p>Every call works on the few rows that the constructor makes, so that a call makes no object.
 * No number on the way reaches 2^62 in size: where that is not plain, a comment says why.
 */
public final class ConicRows {
    public static final int NONE = -1000001, UNKNOWN = -1000002, OUTSIDE = -1000003, STATE = -1000004, ROOM = -1000005, LARGE = -1000006;

    private static final int TRIPLE_WIDTH = 3;
    private static final int CONIC_WIDTH = 6;
    private static final int KEPT_OF_EACH = 60;
    private static final int KEPT_BOUND = 500;
    private static final int GIVEN_BOUND = 1000;
    private static final int TIMES_BOUND = 500;
    private static final int FIVE_BOUND = 30;
    private static final int CORNERS = 5;
    private static final int NOT_WHOLE = 4;
    private static final int WHOLE_LINE = 3;

    private final Shelf points;
    private final Shelf lines;
    private final Shelf conics;
    private final Pair crossings;
    private final Pair parts;

    private final Triple first;
    private final Triple second;
    private final Triple third;
    private final Triple made;
    private final Form left;
    private final Form right;
    private final Form minors;
    private final Form madeForm;
    private final int[] corners;

    public ConicRows() {
        points = new Shelf(TRIPLE_WIDTH);
        lines = new Shelf(TRIPLE_WIDTH);
        conics = new Shelf(CONIC_WIDTH);
        crossings = new Pair();
        parts = new Pair();
        first = new Triple();
        second = new Triple();
        third = new Triple();
        made = new Triple();
        left = new Form();
        right = new Form();
        minors = new Form();
        madeForm = new Form();
        corners = new int[CORNERS];
    }

    public int point(int x, int y, int z) {
        return keepGiven(points, x, y, z);
    }

    public int line(int a, int b, int c) {
        return keepGiven(lines, a, b, c);
    }

    public int conic(int a, int b, int c, int d, int e, int f) {
        madeForm.setQuadratic(a, b, c);
        madeForm.setRest(d, e, f);
        if (!madeForm.isWithin(GIVEN_BOUND) || madeForm.isZero()) {
            return OUTSIDE;
        }
        return conics.keepForm(madeForm);
    }

    public int count(int sort) {
        Shelf shelf = shelfOf(sort);
        return shelf == null ? OUTSIDE : shelf.size;
    }

    public int number(int sort, int i, int k) {
        Shelf shelf = shelfOf(sort);
        if (shelf == null) {
            return OUTSIDE;
        }
        if (!shelf.has(i)) {
            return UNKNOWN;
        }
        if (k < 0 || k >= shelf.width) {
            return OUTSIDE;
        }
        return shelf.get(i, k);
    }

    public int join(int p, int q) {
        return keepAcross(points, p, q, lines);
    }

    public int meet(int l, int m) {
        return keepAcross(lines, l, m, points);
    }

    public int on(int sort, int i, int p) {
        if (sort != 1 && sort != 2) {
            return OUTSIDE;
        }
        Shelf shelf = sort == 1 ? lines : conics;
        if (!shelf.has(i) || !points.has(p)) {
            return UNKNOWN;
        }
        first.read(points, p);
        if (sort == 1) {
            second.read(lines, i);
            return second.times(first) == 0 ? 1 : 0;
        }
        left.read(conics, i);
        return left.valueAt(first) == 0 ? 1 : 0;
    }

    public int five(int p, int q, int r, int s, int t) {
        if (!points.has(p) || !points.has(q) || !points.has(r) || !points.has(s) || !points.has(t)) {
            return UNKNOWN;
        }
        corners[0] = p;
        corners[1] = q;
        corners[2] = r;
        corners[3] = s;
        corners[4] = t;
        if (twoCornersAreSame() || fourCornersAreInLine()) {
            return STATE;
        }
        if (!cornersAreSmall()) {
            return LARGE;
        }
        // Lines of corners are at most 1800, their products 6.5 million, VALUES 2.7 * 10^10:
        // what is made here stays below 4 * 10^17.
        setLinePair(left, p, q, r, s);
        setLinePair(right, p, r, q, s);
        first.read(points, t);
        madeForm.setThrough(left, right, first);
        return keepFormUnlessZero();
    }

    public int kind(int c) {
        if (!conics.has(c)) {
            return UNKNOWN;
        }
        left.read(conics, c);
        long det = left.det();
        long disc = left.disc();
        if (det != 0) {
            return properKind(disc, (left.a + left.c) * det);
        }
        if (disc != 0) {
            return disc > 0 ? 4 : 7;
        }
        return flatKind(left);
    }

    public long told(int c, int what) {
        if (!conics.has(c)) {
            return UNKNOWN;
        }
        left.read(conics, c);
        if (what == 0) {
            return left.det();
        }
        return what == 1 ? left.disc() : OUTSIDE;
    }

    public int round(int c) {
        if (!conics.has(c)) {
            return UNKNOWN;
        }
        left.read(conics, c);
        if (left.b == 0 && left.a == left.c && left.a != 0) {
            return 1;
        }
        boolean rectangular = left.a + left.c == 0 && (left.a != 0 || left.b != 0);
        return rectangular ? 2 : 0;
    }

    public int polar(int c, int p) {
        if (!conics.has(c) || !points.has(p)) {
            return UNKNOWN;
        }
        left.read(conics, c);
        first.read(points, p);
        made.setPolar(left, first);
        return keepTripleUnlessZero(lines);
    }

    public int pole(int c, int l) {
        if (!conics.has(c) || !lines.has(l)) {
            return UNKNOWN;
        }
        left.read(conics, c);
        if (left.det() == 0) {
            return STATE;
        }
        first.read(lines, l);
        minors.setMinors(left);
        made.setProduct(minors, first);
        return keepTripleUnlessZero(points);
    }

    public int centre(int c) {
        if (!conics.has(c)) {
            return UNKNOWN;
        }
        left.read(conics, c);
        minors.setMinors(left);
        made.set(minors.d, minors.e, minors.f);
        return keepTripleUnlessZero(points);
    }

    public int dual(int c) {
        if (!conics.has(c)) {
            return UNKNOWN;
        }
        left.read(conics, c);
        if (left.det() == 0) {
            return STATE;
        }
        minors.setMinors(left);
        madeForm.setQuadratic(minors.a, 2 * minors.b, minors.c);
        madeForm.setRest(2 * minors.d, 2 * minors.e, minors.f);
        return keepFormUnlessZero();
    }

    public int member(int c, int d, int u, int v) {
        if (!conics.has(c) || !conics.has(d)) {
            return UNKNOWN;
        }
        if (!isWithin(u, TIMES_BOUND) || !isWithin(v, TIMES_BOUND)) {
            return OUTSIDE;
        }
        left.read(conics, c);
        right.read(conics, d);
        madeForm.setTogether(left, u, right, v);
        return keepFormUnlessZero();
    }

    public int through(int c, int d, int p) {
        if (!conics.has(c) || !conics.has(d) || !points.has(p)) {
            return UNKNOWN;
        }
        left.read(conics, c);
        right.read(conics, d);
        first.read(points, p);
        madeForm.setThrough(left, right, first);
        return keepFormUnlessZero();
    }

    public long cubic(int c, int d, int k) {
        if (!conics.has(c) || !conics.has(d)) {
            return UNKNOWN;
        }
        if (k < 0 || k > 3) {
            return OUTSIDE;
        }
        left.read(conics, c);
        right.read(conics, d);
        if (k == 0) {
            return left.det();
        }
        if (k == 3) {
            return right.det();
        }
        return k == 1 ? mixedDet(left, right) : mixedDet(right, left);
    }

    public int cross(int c, int l) {
        if (!conics.has(c) || !lines.has(l)) {
            return UNKNOWN;
        }
        left.read(conics, c);
        first.read(lines, l);
        setCrossed(madeForm, left, first);
        if (madeForm.isZero()) {
            crossings.clear();
            return WHOLE_LINE;
        }
        return fallApart(madeForm, crossings);
    }

    public long crossing(int i, int k) {
        return crossings.tell(i, k);
    }

    public int split(int c) {
        if (!conics.has(c)) {
            return UNKNOWN;
        }
        left.read(conics, c);
        if (left.det() != 0) {
            return STATE;
        }
        return fallApart(left, parts);
    }

    public long part(int i, int k) {
        return parts.tell(i, k);
    }

    private Shelf shelfOf(int sort) {
        switch (sort) {
            case 0:
                return points;
            case 1:
                return lines;
            case 2:
                return conics;
            default:
                return null;
        }
    }

    private int keepGiven(Shelf shelf, int x, int y, int z) {
        made.set(x, y, z);
        if (!made.isWithin(GIVEN_BOUND) || made.isZero()) {
            return OUTSIDE;
        }
        return shelf.keepTriple(made);
    }

    /** Two POINTS give a LINE as two LINES give a POINT: the one rule serves both. */
    private int keepAcross(Shelf from, int i, int j, Shelf to) {
        if (!from.has(i) || !from.has(j)) {
            return UNKNOWN;
        }
        first.read(from, i);
        second.read(from, j);
        made.setAcross(first, second);
        return keepTripleUnlessZero(to);
    }

    private int keepTripleUnlessZero(Shelf shelf) {
        return made.isZero() ? STATE : shelf.keepTriple(made);
    }

    private int keepFormUnlessZero() {
        return madeForm.isZero() ? STATE : conics.keepForm(madeForm);
    }

    private boolean twoCornersAreSame() {
        for (int i = 0; i < CORNERS; i++) {
            for (int j = i + 1; j < CORNERS; j++) {
                if (points.areSame(corners[i], corners[j])) {
                    return true;
                }
            }
        }
        return false;
    }

    private boolean fourCornersAreInLine() {
        for (int without = 0; without < CORNERS; without++) {
            setLineOf(second, cornerAfter(without, 1), cornerAfter(without, 2));
            if (isOnSecond(cornerAfter(without, 3)) && isOnSecond(cornerAfter(without, 4))) {
                return true;
            }
        }
        return false;
    }

    private int cornerAfter(int corner, int steps) {
        return corners[Math.floorMod(corner + steps, CORNERS)];
    }

    private boolean isOnSecond(int p) {
        first.read(points, p);
        return second.times(first) == 0;
    }

    private boolean cornersAreSmall() {
        for (int i = 0; i < CORNERS; i++) {
            first.read(points, corners[i]);
            if (!first.isWithin(FIVE_BOUND)) {
                return false;
            }
        }
        return true;
    }

    private void setLineOf(Triple target, int p, int q) {
        first.read(points, p);
        made.read(points, q);
        target.setAcross(first, made);
    }

    private void setLinePair(Form target, int p, int q, int r, int s) {
        setLineOf(second, p, q);
        setLineOf(third, r, s);
        target.setLines(second, third);
    }

    private static int properKind(long disc, long sumTimesDet) {
        if (disc > 0) {
            return 3;
        }
        if (disc == 0) {
            return 2;
        }
        return sumTimesDet < 0 ? 0 : 1;
    }

    /** The KIND where DET and DISC are both 0. */
    private static int flatKind(Form q) {
        if (q.a == 0 && q.b == 0 && q.c == 0) {
            return q.d == 0 && q.e == 0 ? 10 : 9;
        }
        long apart = q.d * q.d + q.e * q.e - 4 * (q.a + q.c) * q.f;
        if (apart == 0) {
            return 6;
        }
        return apart > 0 ? 5 : 8;
    }

    /** The number of cubic() in which the one stands twice: DET grows by its minors times the other. */
    private long mixedDet(Form twice, Form once) {
        minors.setMinors(twice);
        return minors.a * once.a + minors.b * once.b + minors.c * once.c
            + minors.d * once.d + minors.e * once.e + minors.f * once.f;
    }

    /**
     * The form whose VALUE at (u, v, w) is that of q where the LINES l and (u, v, w) meet. It falls
     * into the two crossings as a CONIC falls into two LINES, so that one way finds both.
     */
    private void setCrossed(Form target, Form q, Triple l) {
        // Each place has one 0 and numbers up to 500: VALUES stay below 4 * 10^8, mixed ones
        // below 7 * 10^8, and so their minors below 10^18.
        made.set(0, l.z, -l.y);
        long a = q.valueAt(made);
        second.setPolar(q, made);
        made.set(-l.z, 0, l.x);
        long b = second.times(made);
        long c = q.valueAt(made);
        made.set(l.y, -l.x, 0);
        long d = second.times(made);
        long f = q.valueAt(made);
        second.setPolar(q, made);
        made.set(-l.z, 0, l.x);
        target.setQuadratic(a, b, c);
        target.setRest(d, second.times(made), f);
    }

    /**
     * Of a form with DET 0 that is not 0: 1, 2, 4 or 0, as split() answers. If l and m are its LINES,
     * its minors are the products of two numbers each of the turn l x m, times -1; and with the turn
     * added to the form's rows they are all so many times the one LINE, with it taken away the other.
     */
    private int fallApart(Form q, Pair found) {
        found.clear();
        minors.setMinors(q);
        long square = -minors.firstSquare();
        if (square < 0) {
            return 0;
        }
        long root = rootOf(square);
        if (root * root != square) {
            return NOT_WHOLE;
        }
        made.setTurn(minors, root);
        found.one.setRow(q, made);
        made.set(-made.x, -made.y, -made.z);
        found.two.setRow(q, made);
        found.order(root == 0 ? 1 : 2);
        return found.size;
    }

    private static boolean isWithin(long number, long bound) {
        return number >= -bound && number <= bound;
    }

    /** For numbers not below 0; Euclid's way needs at most 92 steps with numbers of 63 bits. */
    private static long commonDivisor(long a, long b) {
        long high = a;
        long low = b;
        for (int step = 0; step < 100 && low != 0; step++) {
            long rest = high % low;
            high = low;
            low = rest;
        }
        return high;
    }

    /** The greatest whole number whose square is not above the one given (0 to 2^62 - 1). */
    private static long rootOf(long square) {
        long root = 0;
        for (int bit = 30; bit >= 0; bit--) {
            long next = root + (1L << bit);
            if (next * next <= square) {
                root = next;
            }
        }
        return root;
    }

    /** What is kept of one sort. */
    private static final class Shelf {
        private final int width;
        private final int[] numbers;
        private int size;

        Shelf(int width) {
            this.width = width == CONIC_WIDTH ? CONIC_WIDTH : TRIPLE_WIDTH;
            this.numbers = new int[KEPT_OF_EACH * this.width];
            this.size = 0;
        }

        boolean has(int i) {
            return i >= 0 && i < size;
        }

        int get(int i, int k) {
            return has(i) && k >= 0 && k < width ? numbers[i * width + k] : 0;
        }

        boolean areSame(int i, int j) {
            for (int k = 0; k < width; k++) {
                if (get(i, k) != get(j, k)) {
                    return false;
                }
            }
            return true;
        }

        int keepTriple(Triple t) {
            t.reduce();
            if (!t.isWithin(KEPT_BOUND)) {
                return LARGE;
            }
            put(0, t.x);
            put(1, t.y);
            put(2, t.z);
            return close();
        }

        int keepForm(Form q) {
            q.reduce();
            if (!q.isWithin(KEPT_BOUND)) {
                return LARGE;
            }
            put(0, q.a);
            put(1, q.b);
            put(2, q.c);
            put(3, q.d);
            put(4, q.e);
            put(5, q.f);
            return close();
        }

        /** A full shelf takes nothing: close() then answers ROOM. */
        private void put(int k, long number) {
            if (size < KEPT_OF_EACH && k >= 0 && k < width) {
                numbers[size * width + k] = (int) number;
            }
        }

        private int close() {
            if (size >= KEPT_OF_EACH) {
                return ROOM;
            }
            size++;
            return size - 1;
        }
    }

    /** A POINT or a LINE, or three numbers on the way to one. */
    private static final class Triple {
        private long x;
        private long y;
        private long z;

        void set(long newX, long newY, long newZ) {
            x = newX;
            y = newY;
            z = newZ;
        }

        void read(Shelf shelf, int i) {
            set(shelf.get(i, 0), shelf.get(i, 1), shelf.get(i, 2));
        }

        long get(int k) {
            if (k == 0) {
                return x;
            }
            return k == 1 ? y : z;
        }

        boolean isZero() {
            return x == 0 && y == 0 && z == 0;
        }

        boolean isWithin(long bound) {
            return ConicRows.isWithin(x, bound) && ConicRows.isWithin(y, bound) && ConicRows.isWithin(z, bound);
        }

        long times(Triple other) {
            return x * other.x + y * other.y + z * other.z;
        }

        boolean isBefore(Triple other) {
            if (x != other.x) {
                return x < other.x;
            }
            return y != other.y ? y < other.y : z < other.z;
        }

        void reduce() {
            long divisor = commonDivisor(commonDivisor(Math.abs(x), Math.abs(y)), Math.abs(z));
            if (x < 0 || x == 0 && (y < 0 || y == 0 && z < 0)) {
                divisor = -divisor;
            }
            if (divisor != 0) {
                set(x / divisor, y / divisor, z / divisor);
            }
        }

        void setAcross(Triple p, Triple q) {
            set(p.y * q.z - p.z * q.y, p.z * q.x - p.x * q.z, p.x * q.y - p.y * q.x);
        }

        void setPolar(Form q, Triple p) {
            set(2 * q.a * p.x + q.b * p.y + q.d * p.z,
                q.b * p.x + 2 * q.c * p.y + q.e * p.z,
                q.d * p.x + q.e * p.y + 2 * q.f * p.z);
        }

        void setProduct(Form m, Triple p) {
            set(m.a * p.x + m.b * p.y + m.d * p.z,
                m.b * p.x + m.c * p.y + m.e * p.z,
                m.d * p.x + m.e * p.y + m.f * p.z);
        }

        /** A row of minors is one number of the turn, whose size is the root, times all three and -1. */
        void setTurn(Form m, long root) {
            if (root == 0) {
                set(0, 0, 0);
            } else if (m.a != 0) {
                set(-m.a / root, -m.b / root, -m.d / root);
            } else if (m.c != 0) {
                set(-m.b / root, -m.c / root, -m.e / root);
            } else {
                set(-m.d / root, -m.e / root, -m.f / root);
            }
        }

        /** All rows stand for the same LINE, but some may be 0: the first that is not tells it. */
        void setRow(Form q, Triple turn) {
            set(2 * q.a, q.b - turn.z, q.d + turn.y);
            if (isZero()) {
                set(q.b + turn.z, 2 * q.c, q.e - turn.x);
            }
            if (isZero()) {
                set(q.d - turn.y, q.e + turn.x, 2 * q.f);
            }
            reduce();
        }
    }

    /** The numbers of a CONIC, or six on the way to one; also the minors of one, each once. */
    private static final class Form {
        private long a;
        private long b;
        private long c;
        private long d;
        private long e;
        private long f;

        void setQuadratic(long newA, long newB, long newC) {
            a = newA;
            b = newB;
            c = newC;
        }

        void setRest(long newD, long newE, long newF) {
            d = newD;
            e = newE;
            f = newF;
        }

        void read(Shelf shelf, int i) {
            setQuadratic(shelf.get(i, 0), shelf.get(i, 1), shelf.get(i, 2));
            setRest(shelf.get(i, 3), shelf.get(i, 4), shelf.get(i, 5));
        }

        boolean isZero() {
            return a == 0 && b == 0 && c == 0 && d == 0 && e == 0 && f == 0;
        }

        boolean isWithin(long bound) {
            return ConicRows.isWithin(a, bound) && ConicRows.isWithin(b, bound) && ConicRows.isWithin(c, bound)
                && ConicRows.isWithin(d, bound) && ConicRows.isWithin(e, bound) && ConicRows.isWithin(f, bound);
        }

        long det() {
            return 4 * a * c * f + b * d * e - a * e * e - c * d * d - f * b * b;
        }

        long disc() {
            return b * b - 4 * a * c;
        }

        long valueAt(Triple p) {
            return a * p.x * p.x + b * p.x * p.y + c * p.y * p.y
                + d * p.x * p.z + e * p.y * p.z + f * p.z * p.z;
        }

        /** The first minor of the diagonal that is not 0; only if all six are 0 are these three so (DET 0). */
        long firstSquare() {
            if (a != 0) {
                return a;
            }
            return c != 0 ? c : f;
        }

        void reduce() {
            long divisor = commonDivisor(commonDivisor(Math.abs(a), Math.abs(b)), Math.abs(c));
            divisor = commonDivisor(commonDivisor(divisor, Math.abs(d)), Math.abs(e));
            divisor = commonDivisor(divisor, Math.abs(f));
            if (firstNumber() < 0) {
                divisor = -divisor;
            }
            if (divisor != 0) {
                setQuadratic(a / divisor, b / divisor, c / divisor);
                setRest(d / divisor, e / divisor, f / divisor);
            }
        }

        private long firstNumber() {
            if (a != 0 || b != 0) {
                return a != 0 ? a : b;
            }
            if (c != 0 || d != 0) {
                return c != 0 ? c : d;
            }
            return e != 0 ? e : f;
        }

        /** Minors of the rows 2 a, b, d; b, 2 c, e; d, e, 2 f: they give DUAL, CENTRE and POLE alike. */
        void setMinors(Form q) {
            setQuadratic(4 * q.c * q.f - q.e * q.e, q.d * q.e - 2 * q.b * q.f, 4 * q.a * q.f - q.d * q.d);
            setRest(q.b * q.e - 2 * q.c * q.d, q.b * q.d - 2 * q.a * q.e, 4 * q.a * q.c - q.b * q.b);
        }

        void setTogether(Form p, long u, Form q, long v) {
            setQuadratic(u * p.a + v * q.a, u * p.b + v * q.b, u * p.c + v * q.c);
            setRest(u * p.d + v * q.d, u * p.e + v * q.e, u * p.f + v * q.f);
        }

        void setThrough(Form p, Form q, Triple place) {
            setTogether(p, q.valueAt(place), q, -p.valueAt(place));
        }

        void setLines(Triple l, Triple m) {
            setQuadratic(l.x * m.x, l.x * m.y + l.y * m.x, l.y * m.y);
            setRest(l.x * m.z + l.z * m.x, l.y * m.z + l.z * m.y, l.z * m.z);
        }
    }

    /** None, one or two POINTS or LINES that a call has found. */
    private static final class Pair {
        private Triple one;
        private Triple two;
        private int size;

        Pair() {
            one = new Triple();
            two = new Triple();
            size = 0;
        }

        void clear() {
            size = 0;
        }

        void order(int newSize) {
            size = newSize;
            if (size == 2 && two.isBefore(one)) {
                Triple lesser = two;
                two = one;
                one = lesser;
            }
        }

        long tell(int i, int k) {
            if (k < 0 || k >= TRIPLE_WIDTH) {
                return OUTSIDE;
            }
            if (i < 0 || i >= size) {
                return NONE;
            }
            return i == 0 ? one.get(k) : two.get(k);
        }
    }
}
