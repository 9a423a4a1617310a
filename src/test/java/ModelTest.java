import java.math.BigInteger;
import java.util.ArrayList;
import java.util.Arrays;
import java.util.List;
import java.util.Random;

/**
 * Runs of calls, chosen by a fixed seed, on ConicRows and on a model that goes other ways to the
 * same answers: all by BigInteger, five() by minors, cross() by a walk along the line, split() by
 * the rule for one unknown, cubic() from DETs of members.
 */
public final class ModelTest {
    private static final int RUNS = 4000;
    private static final int CALLS = 512;
    private static final BigInteger ZERO = BigInteger.ZERO;
    private static final BigInteger TWO = BigInteger.TWO;
    private static final BigInteger FOUR = BigInteger.valueOf(4);

    private static int wrong = 0;
    /** How often each call answered: at 0 other numbers, from 1 on NONE to LARGE, from 7 on 0 to 10. */
    private static final int[][] ANSWERS = new int[24][20];

    public static void main(String[] args) {
        Random random = new Random(20261116L);
        for (int run = 0; run < RUNS && wrong < 20; run++) {
            oneRun(random, run);
        }
        dueEveryAnswer();
        System.out.println(wrong == 0 ? "all answers are as due" : wrong + " answers are not as due");
        if (wrong != 0) {
            System.exit(1);
        }
    }

    private static void oneRun(Random random, int run) {
        ConicRows x = new ConicRows();
        Model model = new Model();
        int[] sizes = {1, 3, 9, 30, 100, 500, 1000, -30, -500};
        int size = sizes[random.nextInt(sizes.length)];
        StringBuilder story = new StringBuilder();
        for (int i = 0; i < CALLS; i++) {
            Call call = Call.choose(random, model, size);
            long want = call.ask(model);
            long got = call.ask(x);
            if (story.length() < 20000) {
                story.append("  ").append(call).append(" = ").append(got).append('\n');
            }
            note(call.name, want);
            if (got != want) {
                wrong++;
                System.out.println("run " + run + ": " + call + " answered " + got + ", due is " + want + ", after\n" + story);
                return;
            }
        }
    }

    /** A random test tells little of an answer that it never saw. */
    private static void dueEveryAnswer() {
        String[] needed = {
            "point LARGE ROOM OUTSIDE", "line LARGE ROOM OUTSIDE", "conic LARGE ROOM OUTSIDE", "count OUTSIDE",
            "number OUTSIDE UNKNOWN", "join STATE LARGE ROOM UNKNOWN", "meet STATE LARGE ROOM UNKNOWN", "on OUTSIDE UNKNOWN",
            "five STATE LARGE ROOM UNKNOWN", "kind UNKNOWN", "told OUTSIDE UNKNOWN", "round UNKNOWN",
            "polar STATE LARGE ROOM UNKNOWN", "pole STATE LARGE ROOM UNKNOWN", "centre STATE LARGE ROOM UNKNOWN",
            "dual STATE LARGE ROOM UNKNOWN", "member OUTSIDE STATE LARGE ROOM UNKNOWN", "through STATE LARGE ROOM UNKNOWN",
            "cubic OUTSIDE UNKNOWN", "cross UNKNOWN", "crossing NONE OUTSIDE", "split STATE UNKNOWN", "part NONE OUTSIDE"};
        List<String> words = Arrays.asList("NONE", "UNKNOWN", "OUTSIDE", "STATE", "ROOM", "LARGE");
        for (String row : needed) {
            String[] parts = row.split(" ");
            int[] seen = ANSWERS[Call.NAMES.indexOf(parts[0])];
            for (int i = 1; i < parts.length; i++) {
                if (seen[words.indexOf(parts[i]) + 1] == 0) {
                    wrong++;
                    System.out.println(parts[0] + " never answered " + parts[i]);
                }
            }
            if (seen[0] + seen[7] + seen[8] == 0) {
                wrong++;
                System.out.println(parts[0] + " never answered a number");
            }
        }
        dueSmallAnswers("kind", 0, 1, 2, 3, 4, 5, 6, 7, 8, 9, 10);
        dueSmallAnswers("round", 0, 1, 2);
        dueSmallAnswers("on", 0, 1);
        dueSmallAnswers("cross", 0, 1, 2, 3, 4);
        dueSmallAnswers("split", 0, 1, 2, 4);
    }

    private static void dueSmallAnswers(String name, int... answers) {
        for (int answer : answers) {
            if (ANSWERS[Call.NAMES.indexOf(name)][7 + answer] < 50) {
                wrong++;
                System.out.println(name + " hardly ever answered " + answer);
            }
        }
    }

    private static void note(String name, long answer) {
        boolean word = answer <= ConicRows.NONE && answer >= ConicRows.LARGE;
        boolean small = answer >= 0 && answer <= 10;
        ANSWERS[Call.NAMES.indexOf(name)][word ? (int) (ConicRows.NONE - answer) + 1 : small ? 7 + (int) answer : 0]++;
    }

    /** A call's name and its arguments. */
    private static final class Call {
        static final List<String> NAMES = Arrays.asList("point", "line", "conic", "count", "number", "join", "meet", "on", "five",
            "kind", "told", "round", "polar", "pole", "centre", "dual", "member", "through", "cubic", "cross", "crossing", "split",
            "part");
        final String name;
        final int[] n;

        Call(String name, int... n) {
            this.name = name;
            this.n = n;
        }

        @Override
        public String toString() {
            return name + Arrays.toString(n).replace('[', '(').replace(']', ')');
        }

        static int index(Random r, int size) {
            if (r.nextInt(150) == 0) {
                return new int[] {-1, size, Integer.MIN_VALUE, Integer.MAX_VALUE, 60, size + 1}[r.nextInt(6)];
            }
            return size == 0 ? 0 : r.nextInt(size);
        }

        /** A bound below 0 asks for numbers close to it, on either side. */
        static int value(Random r, int bound) {
            if (bound < 0) {
                return r.nextInt(8) == 0 ? 0 : (r.nextBoolean() ? 1 : -1) * (-bound - r.nextInt(r.nextBoolean() ? 2 : 5));
            }
            int kind = r.nextInt(12);
            if (kind < 3) {
                return 0;
            }
            if (kind == 3) {
                return r.nextInt(3) - 1;
            }
            if (kind == 4) {
                return r.nextBoolean() ? bound : -bound;
            }
            return r.nextInt(400) == 0 ? r.nextInt() : r.nextInt(2 * bound + 1) - bound;
        }

        static int small(Random r, int bound) {
            return r.nextInt(60) == 0 ? r.nextInt(11) - 5 + (r.nextBoolean() ? bound : 0) : r.nextInt(bound);
        }

        static Call conicOfLines(Random r, int size) {
            int bound = Math.max(1, (int) Math.sqrt(Math.abs(size)));
            int[] l = {value(r, bound), value(r, bound), value(r, bound)};
            int[] m = {value(r, bound), value(r, bound), value(r, bound)};
            int way = r.nextInt(5);
            if (way == 0) {
                m = l;
            }
            if (way <= 2) {
                return new Call("conic", l[0] * m[0], l[0] * m[1] + l[1] * m[0], l[1] * m[1],
                    l[0] * m[2] + l[2] * m[0], l[1] * m[2] + l[2] * m[1], l[2] * m[2]);
            }
            int times = value(r, 5);
            return new Call("conic", l[0] * l[0] + times * m[0] * m[0], 2 * (l[0] * l[1] + times * m[0] * m[1]),
                l[1] * l[1] + times * m[1] * m[1], 2 * (l[0] * l[2] + times * m[0] * m[2]),
                2 * (l[1] * l[2] + times * m[1] * m[2]), l[2] * l[2] + times * m[2] * m[2]);
        }

        static Call choose(Random r, Model m, int size) {
            int p = m.points.size();
            int l = m.lines.size();
            int c = m.conics.size();
            String name = NAMES.get(r.nextInt(NAMES.size()));
            switch (name) {
                case "point":
                case "line":
                    return new Call(name, value(r, size), value(r, size), value(r, size));
                case "conic":
                    return r.nextBoolean() ? conicOfLines(r, size)
                        : new Call(name, value(r, size), value(r, size), value(r, size), value(r, size), value(r, size), value(r, size));
                case "count":
                    return new Call(name, small(r, 3));
                case "number":
                    return numberCall(r, m);
                case "join":
                    return new Call(name, index(r, p), index(r, p));
                case "meet":
                    return new Call(name, index(r, l), index(r, l));
                case "on":
                    int sort = 1 + small(r, 2);
                    return new Call(name, sort, index(r, sort == 1 ? l : c), index(r, p));
                case "five":
                    return new Call(name, index(r, p), index(r, p), index(r, p), index(r, p), index(r, p));
                case "told":
                    return new Call(name, index(r, c), small(r, 2));
                case "polar":
                    return new Call(name, index(r, c), index(r, p));
                case "pole":
                case "cross":
                    return new Call(name, index(r, c), index(r, l));
                case "member":
                    int bound = r.nextBoolean() ? 3 : 503;
                    return new Call(name, index(r, c), index(r, c), value(r, bound), value(r, bound));
                case "through":
                    return new Call(name, index(r, c), index(r, c), index(r, p));
                case "cubic":
                    return new Call(name, index(r, c), index(r, c), small(r, 4));
                case "crossing":
                case "part":
                    return new Call(name, small(r, 2), small(r, 3));
                default:
                    return new Call(name, index(r, c));
            }
        }

        static Call numberCall(Random r, Model m) {
            int sort = small(r, 3);
            int size = sort == 0 ? m.points.size() : sort == 1 ? m.lines.size() : m.conics.size();
            return new Call("number", sort, index(r, size), small(r, sort == 2 ? 6 : 3));
        }

        long ask(ConicRows x) {
            switch (name) {
                case "point": return x.point(n[0], n[1], n[2]);
                case "line": return x.line(n[0], n[1], n[2]);
                case "conic": return x.conic(n[0], n[1], n[2], n[3], n[4], n[5]);
                case "count": return x.count(n[0]);
                case "number": return x.number(n[0], n[1], n[2]);
                case "join": return x.join(n[0], n[1]);
                case "meet": return x.meet(n[0], n[1]);
                case "on": return x.on(n[0], n[1], n[2]);
                case "five": return x.five(n[0], n[1], n[2], n[3], n[4]);
                case "kind": return x.kind(n[0]);
                case "told": return x.told(n[0], n[1]);
                case "round": return x.round(n[0]);
                case "polar": return x.polar(n[0], n[1]);
                case "pole": return x.pole(n[0], n[1]);
                case "centre": return x.centre(n[0]);
                case "dual": return x.dual(n[0]);
                case "member": return x.member(n[0], n[1], n[2], n[3]);
                case "through": return x.through(n[0], n[1], n[2]);
                case "cubic": return x.cubic(n[0], n[1], n[2]);
                case "cross": return x.cross(n[0], n[1]);
                case "crossing": return x.crossing(n[0], n[1]);
                case "split": return x.split(n[0]);
                default: return x.part(n[0], n[1]);
            }
        }

        long ask(Model x) {
            switch (name) {
                case "point": return x.given(x.points, n);
                case "line": return x.given(x.lines, n);
                case "conic": return x.given(x.conics, n);
                case "count": return x.shelf(n[0]) == null ? ConicRows.OUTSIDE : x.shelf(n[0]).size();
                case "number": return x.number(n[0], n[1], n[2]);
                case "join": return x.across(x.points, n[0], n[1], x.lines);
                case "meet": return x.across(x.lines, n[0], n[1], x.points);
                case "on": return x.on(n[0], n[1], n[2]);
                case "five": return x.five(n);
                case "kind": return x.kind(n[0]);
                case "told": return x.told(n[0], n[1]);
                case "round": return x.round(n[0]);
                case "polar": return x.polar(n[0], n[1]);
                case "pole": return x.pole(n[0], n[1]);
                case "centre": return x.centre(n[0]);
                case "dual": return x.dual(n[0]);
                case "member": return x.member(n[0], n[1], n[2], n[3]);
                case "through": return x.through(n[0], n[1], n[2]);
                case "cubic": return x.cubic(n[0], n[1], n[2]);
                case "cross": return x.cross(n[0], n[1]);
                case "crossing": return tell(x.crossings, n[0], n[1]);
                case "split": return x.split(n[0]);
                default: return tell(x.parts, n[0], n[1]);
            }
        }

        static long tell(List<BigInteger[]> found, int i, int k) {
            if (k < 0 || k > 2) {
                return ConicRows.OUTSIDE;
            }
            return i < 0 || i >= found.size() ? ConicRows.NONE : found.get(i)[k].longValueExact();
        }
    }

    /** The document once more, without a thought of room or speed. */
    private static final class Model {
        final List<BigInteger[]> points = new ArrayList<>();
        final List<BigInteger[]> lines = new ArrayList<>();
        final List<BigInteger[]> conics = new ArrayList<>();
        List<BigInteger[]> crossings = new ArrayList<>();
        List<BigInteger[]> parts = new ArrayList<>();

        List<BigInteger[]> shelf(int sort) {
            return sort == 0 ? points : sort == 1 ? lines : sort == 2 ? conics : null;
        }

        static boolean no(List<BigInteger[]> shelf, int i) {
            return i < 0 || i >= shelf.size();
        }

        static BigInteger big(long n) {
            return BigInteger.valueOf(n);
        }

        static boolean zero(BigInteger[] row) {
            for (BigInteger n : row) {
                if (n.signum() != 0) {
                    return false;
                }
            }
            return true;
        }

        static boolean beyond(BigInteger[] row, int bound) {
            for (BigInteger n : row) {
                if (n.abs().compareTo(big(bound)) > 0) {
                    return true;
                }
            }
            return false;
        }

        static BigInteger[] reduced(BigInteger[] row) {
            BigInteger divisor = ZERO;
            int sign = 0;
            for (BigInteger n : row) {
                divisor = divisor.gcd(n);
                sign = sign == 0 ? n.signum() : sign;
            }
            BigInteger[] result = new BigInteger[row.length];
            for (int k = 0; k < row.length; k++) {
                result[k] = row[k].divide(divisor).multiply(big(sign));
            }
            return result;
        }

        static long keep(List<BigInteger[]> shelf, BigInteger... row) {
            if (zero(row)) {
                return ConicRows.STATE;
            }
            BigInteger[] kept = reduced(row);
            if (beyond(kept, 500)) {
                return ConicRows.LARGE;
            }
            if (shelf.size() >= 60) {
                return ConicRows.ROOM;
            }
            shelf.add(kept);
            return shelf.size() - 1;
        }

        long given(List<BigInteger[]> shelf, int[] n) {
            BigInteger[] row = new BigInteger[n.length];
            for (int k = 0; k < n.length; k++) {
                row[k] = big(n[k]);
            }
            return zero(row) || beyond(row, 1000) ? ConicRows.OUTSIDE : keep(shelf, row);
        }

        long number(int sort, int i, int k) {
            if (sort < 0 || sort > 2) {
                return ConicRows.OUTSIDE;
            }
            if (no(shelf(sort), i)) {
                return ConicRows.UNKNOWN;
            }
            return k < 0 || k >= (sort == 2 ? 6 : 3) ? ConicRows.OUTSIDE : shelf(sort).get(i)[k].longValueExact();
        }

        static BigInteger[] crossed(BigInteger[] p, BigInteger[] q) {
            return new BigInteger[] {det2(p[1], p[2], q[1], q[2]), det2(p[2], p[0], q[2], q[0]), det2(p[0], p[1], q[0], q[1])};
        }

        static BigInteger det2(BigInteger a, BigInteger b, BigInteger c, BigInteger d) {
            return a.multiply(d).subtract(b.multiply(c));
        }

        static BigInteger dot(BigInteger[] p, BigInteger[] q) {
            BigInteger sum = ZERO;
            for (int k = 0; k < p.length; k++) {
                sum = sum.add(p[k].multiply(q[k]));
            }
            return sum;
        }

        long across(List<BigInteger[]> from, int i, int j, List<BigInteger[]> to) {
            if (no(from, i) || no(from, j)) {
                return ConicRows.UNKNOWN;
            }
            return Arrays.equals(from.get(i), from.get(j)) ? ConicRows.STATE : keep(to, crossed(from.get(i), from.get(j)));
        }

        static BigInteger[] squares(BigInteger[] p) {
            return new BigInteger[] {p[0].multiply(p[0]), p[0].multiply(p[1]), p[1].multiply(p[1]), p[0].multiply(p[2]),
                p[1].multiply(p[2]), p[2].multiply(p[2])};
        }

        static BigInteger value(BigInteger[] q, BigInteger[] p) {
            return dot(q, squares(p));
        }

        long on(int sort, int i, int p) {
            if (sort != 1 && sort != 2) {
                return ConicRows.OUTSIDE;
            }
            if (no(shelf(sort), i) || no(points, p)) {
                return ConicRows.UNKNOWN;
            }
            BigInteger[] row = shelf(sort).get(i);
            BigInteger at = sort == 1 ? dot(row, points.get(p)) : value(row, points.get(p));
            return at.signum() == 0 ? 1 : 0;
        }

        static BigInteger determinant(BigInteger[][] m) {
            if (m.length == 1) {
                return m[0][0];
            }
            BigInteger sum = ZERO;
            for (int k = 0; k < m.length; k++) {
                BigInteger term = m[0][k].multiply(determinant(without(m, 0, k)));
                sum = k % 2 == 0 ? sum.add(term) : sum.subtract(term);
            }
            return sum;
        }

        static BigInteger[][] without(BigInteger[][] m, int row, int column) {
            List<BigInteger[]> rows = new ArrayList<>();
            for (int i = 0; i < m.length; i++) {
                List<BigInteger> kept = new ArrayList<>();
                for (int k = 0; k < m[i].length; k++) {
                    if (k != column) {
                        kept.add(m[i][k]);
                    }
                }
                if (i != row) {
                    rows.add(kept.toArray(new BigInteger[0]));
                }
            }
            return rows.toArray(new BigInteger[0][]);
        }

        long five(int[] n) {
            BigInteger[][] rows = new BigInteger[5][];
            boolean beyond = false;
            for (int i = 0; i < 5; i++) {
                if (no(points, n[i])) {
                    return ConicRows.UNKNOWN;
                }
                beyond |= beyond(points.get(n[i]), 30);
                rows[i] = squares(points.get(n[i]));
            }
            BigInteger[] q = new BigInteger[6];
            for (int k = 0; k < 6; k++) {
                BigInteger minor = determinant(without(rows, -1, k));
                q[k] = k % 2 == 0 ? minor : minor.negate();
            }
            if (zero(q)) {
                return ConicRows.STATE;
            }
            return beyond ? ConicRows.LARGE : keep(conics, q);
        }

        static BigInteger[][] matrix(BigInteger[] q) {
            return new BigInteger[][] {{q[0].multiply(TWO), q[1], q[3]}, {q[1], q[2].multiply(TWO), q[4]},
                {q[3], q[4], q[5].multiply(TWO)}};
        }

        static BigInteger det(BigInteger[] q) {
            return determinant(matrix(q)).divide(TWO);
        }

        static BigInteger disc(BigInteger[] q) {
            return q[1].multiply(q[1]).subtract(FOUR.multiply(q[0]).multiply(q[2]));
        }

        long kind(int c) {
            if (no(conics, c)) {
                return ConicRows.UNKNOWN;
            }
            BigInteger[] q = conics.get(c);
            int disc = disc(q).signum();
            int det = det(q).signum();
            int sum = q[0].add(q[2]).signum();
            if (det != 0) {
                return disc > 0 ? 3 : disc == 0 ? 2 : sum * det < 0 ? 0 : 1;
            }
            if (disc != 0) {
                return disc > 0 ? 4 : 7;
            }
            if (sum == 0) {
                return q[3].signum() == 0 && q[4].signum() == 0 ? 10 : 9;
            }
            int found = lineCount(split(q, new ArrayList<>()));
            return found == 2 ? 5 : found == 1 ? 6 : 8;
        }

        static int lineCount(int split) {
            return split == 4 ? 2 : split;
        }

        long told(int c, int what) {
            if (no(conics, c)) {
                return ConicRows.UNKNOWN;
            }
            BigInteger[] q = conics.get(c);
            return what == 0 ? det(q).longValueExact() : what == 1 ? disc(q).longValueExact() : ConicRows.OUTSIDE;
        }

        long round(int c) {
            if (no(conics, c)) {
                return ConicRows.UNKNOWN;
            }
            long a = conics.get(c)[0].longValue();
            long b = conics.get(c)[1].longValue();
            long e = conics.get(c)[2].longValue();
            if (a == 0 && b == 0) {
                return 0;
            }
            return b == 0 && a == e ? 1 : a == -e ? 2 : 0;
        }

        static BigInteger[] polarOf(BigInteger[] q, BigInteger[] p) {
            BigInteger[][] m = matrix(q);
            return new BigInteger[] {dot(m[0], p), dot(m[1], p), dot(m[2], p)};
        }

        long polar(int c, int p) {
            if (no(conics, c) || no(points, p)) {
                return ConicRows.UNKNOWN;
            }
            return keep(lines, polarOf(conics.get(c), points.get(p)));
        }

        long pole(int c, int l) {
            if (no(conics, c) || no(lines, l)) {
                return ConicRows.UNKNOWN;
            }
            BigInteger[][] m = matrix(conics.get(c));
            if (determinant(m).signum() == 0) {
                return ConicRows.STATE;
            }
            BigInteger[] p = new BigInteger[3];
            for (int k = 0; k < 3; k++) {
                BigInteger[][] other = {m[0].clone(), m[1].clone(), m[2].clone()};
                for (int i = 0; i < 3; i++) {
                    other[i][k] = lines.get(l)[i];
                }
                p[k] = determinant(other);
            }
            return keep(points, p);
        }

        long centre(int c) {
            if (no(conics, c)) {
                return ConicRows.UNKNOWN;
            }
            BigInteger[][] m = matrix(conics.get(c));
            return keep(points, crossed(m[0], m[1]));
        }

        /** p is ON it if its POLAR u is ON the dual; with p as minors times u: six places tell the dual. */
        long dual(int c) {
            if (no(conics, c)) {
                return ConicRows.UNKNOWN;
            }
            BigInteger[] q = conics.get(c);
            BigInteger[][] m = matrix(q);
            BigInteger det = determinant(m);
            if (det.signum() == 0) {
                return ConicRows.STATE;
            }
            BigInteger[][] inverse = {crossed(m[1], m[2]), crossed(m[2], m[0]), crossed(m[0], m[1])};
            BigInteger[] ones = new BigInteger[3];
            for (int k = 0; k < 3; k++) {
                ones[k] = value(q, inverse[k]);
            }
            return keep(conics, ones[0], mixed(q, inverse[0], inverse[1], ones[0], ones[1]), ones[1],
                mixed(q, inverse[0], inverse[2], ones[0], ones[2]), mixed(q, inverse[1], inverse[2], ones[1], ones[2]), ones[2]);
        }

        static BigInteger[] sum(BigInteger[] p, BigInteger u, BigInteger[] q, BigInteger v) {
            BigInteger[] result = new BigInteger[p.length];
            for (int k = 0; k < p.length; k++) {
                result[k] = u.multiply(p[k]).add(v.multiply(q[k]));
            }
            return result;
        }

        static BigInteger mixed(BigInteger[] q, BigInteger[] p, BigInteger[] r, BigInteger atP, BigInteger atR) {
            return value(q, sum(p, BigInteger.ONE, r, BigInteger.ONE)).subtract(atP).subtract(atR);
        }

        long member(int c, int d, int u, int v) {
            if (no(conics, c) || no(conics, d)) {
                return ConicRows.UNKNOWN;
            }
            if (u < -500 || u > 500 || v < -500 || v > 500) {
                return ConicRows.OUTSIDE;
            }
            return keep(conics, sum(conics.get(c), big(u), conics.get(d), big(v)));
        }

        long through(int c, int d, int p) {
            if (no(conics, c) || no(conics, d) || no(points, p)) {
                return ConicRows.UNKNOWN;
            }
            BigInteger atC = value(conics.get(c), points.get(p));
            BigInteger atD = value(conics.get(d), points.get(p));
            return keep(conics, sum(conics.get(c), atD, conics.get(d), atC.negate()));
        }

        long cubic(int c, int d, int k) {
            if (no(conics, c) || no(conics, d)) {
                return ConicRows.UNKNOWN;
            }
            if (k < 0 || k > 3) {
                return ConicRows.OUTSIDE;
            }
            BigInteger first = det(conics.get(c));
            BigInteger last = det(conics.get(d));
            BigInteger plus = det(sum(conics.get(c), BigInteger.ONE, conics.get(d), BigInteger.ONE));
            BigInteger minus = det(sum(conics.get(c), BigInteger.ONE, conics.get(d), BigInteger.ONE.negate()));
            BigInteger third = plus.add(minus).divide(TWO).subtract(first);
            BigInteger second = plus.subtract(first).subtract(third).subtract(last);
            return new BigInteger[] {first, second, third, last}[k].longValueExact();
        }

        long cross(int c, int l) {
            if (no(conics, c) || no(lines, l)) {
                return ConicRows.UNKNOWN;
            }
            crossings = new ArrayList<>();
            BigInteger[] n = lines.get(l);
            BigInteger[] from = n[0].signum() != 0 ? row(n[1], n[0].negate(), ZERO) : row(BigInteger.ONE, ZERO, ZERO);
            BigInteger[] to = n[0].signum() != 0 ? row(n[2], ZERO, n[0].negate()) : n[1].signum() != 0
                ? row(ZERO, n[2], n[1].negate()) : row(ZERO, BigInteger.ONE, ZERO);
            BigInteger a = value(conics.get(c), from);
            BigInteger f = value(conics.get(c), to);
            BigInteger b = mixed(conics.get(c), from, to, a, f);
            if (a.signum() == 0 && b.signum() == 0 && f.signum() == 0) {
                return 3;
            }
            BigInteger disc = b.multiply(b).subtract(FOUR.multiply(a).multiply(f));
            if (disc.signum() < 0) {
                return 0;
            }
            BigInteger root = disc.sqrt();
            if (!root.multiply(root).equals(disc)) {
                return 4;
            }
            if (a.signum() != 0) {
                addFound(crossings, sum(from, root.subtract(b), to, a.multiply(TWO)));
                addFound(crossings, sum(from, root.negate().subtract(b), to, a.multiply(TWO)));
            } else {
                addFound(crossings, from);
                if (b.signum() != 0) {
                    addFound(crossings, sum(from, f, to, b.negate()));
                }
            }
            return crossings.size();
        }

        static BigInteger[] row(BigInteger... row) {
            return row;
        }

        static void addFound(List<BigInteger[]> found, BigInteger[] row) {
            BigInteger[] next = reduced(row);
            for (BigInteger[] other : found) {
                if (Arrays.equals(other, next)) {
                    return;
                }
            }
            found.add(next);
            found.sort((p, q) -> {
                for (int k = 0; k < 3; k++) {
                    if (!p[k].equals(q[k])) {
                        return p[k].compareTo(q[k]);
                    }
                }
                return 0;
            });
        }

        long split(int c) {
            if (no(conics, c)) {
                return ConicRows.UNKNOWN;
            }
            if (det(conics.get(c)).signum() != 0) {
                return ConicRows.STATE;
            }
            parts = new ArrayList<>();
            return split(conics.get(c), parts);
        }

        /** Of a form with DET 0, as one of x alone; if x x does not stand in it, with its unknowns changed about. */
        static int split(BigInteger[] q, List<BigInteger[]> found) {
            if (q[0].signum() != 0) {
                return splitByX(q, found, 0);
            }
            if (q[2].signum() != 0) {
                return splitByX(row(q[2], q[1], q[0], q[4], q[3], q[5]), found, 1);
            }
            if (q[5].signum() != 0) {
                return splitByX(row(q[5], q[4], q[2], q[3], q[1], q[0]), found, 2);
            }
            BigInteger one = BigInteger.ONE;
            if (q[1].signum() == 0) {
                addFound(found, row(ZERO, ZERO, one));
                addFound(found, row(q[3], q[4], ZERO));
            } else if (q[3].signum() == 0) {
                addFound(found, row(ZERO, one, ZERO));
                addFound(found, row(q[1], ZERO, q[4]));
            } else {
                addFound(found, row(one, ZERO, ZERO));
                addFound(found, row(ZERO, q[1], q[3]));
            }
            return 2;
        }

        /** 4 a VALUE is (2 a x + b y + d z) squared, less a rest in y and z that has one square. */
        static int splitByX(BigInteger[] q, List<BigInteger[]> found, int swapped) {
            BigInteger yy = q[1].multiply(q[1]).subtract(FOUR.multiply(q[0]).multiply(q[2]));
            BigInteger yz = q[1].multiply(q[3]).subtract(TWO.multiply(q[0]).multiply(q[4]));
            BigInteger zz = q[3].multiply(q[3]).subtract(FOUR.multiply(q[0]).multiply(q[5]));
            BigInteger[] mean = row(TWO.multiply(q[0]), q[1], q[3]);
            if (yy.signum() < 0 || zz.signum() < 0) {
                return 0;
            }
            if (yy.signum() == 0 && zz.signum() == 0) {
                addFound(found, swap(mean, swapped));
                return 1;
            }
            BigInteger square = yy.signum() != 0 ? yy : zz;
            BigInteger root = square.sqrt();
            if (!root.multiply(root).equals(square)) {
                return 4;
            }
            // Times the root all stays whole.
            BigInteger[] step = yy.signum() != 0 ? row(ZERO, yy, yz) : row(ZERO, yz, zz);
            addFound(found, swap(sum(mean, root, step, BigInteger.ONE), swapped));
            addFound(found, swap(sum(mean, root, step, BigInteger.ONE.negate()), swapped));
            return 2;
        }

        static BigInteger[] swap(BigInteger[] l, int with) {
            BigInteger[] result = l.clone();
            result[0] = l[with];
            result[with] = l[0];
            return result;
        }
    }
}
