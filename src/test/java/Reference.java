import java.math.BigInteger;
import java.util.ArrayList;
import java.util.Arrays;
import java.util.Comparator;
import java.util.HashMap;
import java.util.HashSet;
import java.util.List;
import java.util.Map;
import java.util.Set;

/**
 * The document again, reckoned in other ways than the class does wherever there is one: angles by atan2
 * (directions here differ by more than 1e-9, if at all), fractions of big numbers, the cross ratio, Euler's formula.
 */
final class Reference {
    static final int NONE = -1, BAD = -2, FULL = -3, NOT = -4;
    private static final double HAIR = 1e-11;

    private final List<long[]> points = new ArrayList<>();
    private final List<long[]> lines = new ArrayList<>();
    private int[] row = new int[0];
    private boolean on = true;
    private final int[] decided = new int[3];

    long point(long x, long y, long down) {
        if (Math.max(x, y) > 800 || Math.min(x, y) < -800 || !List.of(1L, 2L, 3L, 4L, 6L, 12L).contains(down)) {
            return BAD;
        }
        if (points.size() == 60) {
            return FULL;
        }
        points.add(new long[] {x * 12 / down, y * 12 / down});
        return points.size() - 1;
    }

    long size(int n) {
        if (n < 0) {
            throw new NegativeArraySizeException();
        }
        if (n > 24) {
            return BAD;
        }
        int had = row.length;
        row = new int[n];
        Arrays.fill(row, NONE);
        return had;
    }

    long of(int i, int point) {
        if (point != NONE && none(point)) {
            return BAD;
        }
        if (i < 0 || i >= row.length) {
            throw new ArrayIndexOutOfBoundsException();
        }
        int had = row[i];
        row[i] = point;
        return had;
    }

    long at(int i, int what) {
        if (i < 0 || i >= row.length) {
            throw new ArrayIndexOutOfBoundsException();
        }
        if (row[i] == NONE) {
            throw new NullPointerException();
        }
        return what == 0 || what == 1 ? points.get(row[i])[what] : row[i];
    }

    long side(int a, int b, int c) {
        if (none(a, b, c)) {
            return BAD;
        }
        if (equal(a, b)) {
            return NOT;
        }
        return told(filterTurn(a, b, c), turn(a, b, c));
    }

    long circle(int a, int b, int c, int d) {
        if (none(a, b, c, d)) {
            return BAD;
        }
        if (turn(a, b, c) == 0) {
            return NOT;
        }
        return told(filterRing(a, b, c, d), ring(a, b, c, d));
    }

    long filter(boolean now) {
        boolean was = on;
        on = now;
        return was ? 1 : 0;
    }

    long decided(int what) {
        return what >= 0 && what <= 2 ? decided[what] : BAD;
    }

    private long told(boolean clear, int sign) {
        decided[on && clear ? 0 : 1]++;
        if (sign == 0) {
            decided[2]++;
        }
        return sign;
    }

    private boolean filterTurn(int a, int b, int c) {
        float left = (fx(b) - fx(a)) * (fy(c) - fy(a));
        float right = (fy(b) - fy(a)) * (fx(c) - fx(a));
        return Math.abs(left - right) > reach(a, b, c) * reach(a, b, c) * 0.000003814697265625f;
    }

    private boolean filterRing(int a, int b, int c, int d) {
        float[] x = {fx(a) - fx(d), fx(b) - fx(d), fx(c) - fx(d)};
        float[] y = {fy(a) - fy(d), fy(b) - fy(d), fy(c) - fy(d)};
        float[] term = new float[3];
        for (int i = 0; i < 3; i++) {
            int j = (i + 1) % 3;
            int k = (i + 2) % 3;
            float s = x[i] * x[i] + y[i] * y[i];
            term[i] = s * (x[j] * y[k] - y[j] * x[k]);
        }
        float square = reach(a, b, c, d) * reach(a, b, c, d);
        return Math.abs((term[0] + term[1]) + term[2]) > square * square * 0.000244140625f;
    }

    private float reach(int... told) {
        float most = 0;
        for (int p : told) {
            most = Math.max(most, Math.max(Math.abs(fx(p)), Math.abs(fy(p))));
        }
        return most;
    }

    private float fx(int p) {
        return (float) x(p) / 12.0f;
    }

    private float fy(int p) {
        return (float) y(p) / 12.0f;
    }

    long between(int a, int b, int c) {
        if (none(a, b, c)) {
            return BAD;
        }
        return equal(a, b) || equal(b, c) ? 2 : onWay(a, c, b) ? 1 : 0;
    }

    long inside(int a, int b, int c, int d) {
        if (none(a, b, c, d)) {
            return BAD;
        }
        if (equal(a, b) || equal(a, c)) {
            return NOT;
        }
        if (equal(a, d)) {
            return 2;
        }
        double toC = around(direction(a, c) - direction(a, b));
        double toD = around(direction(a, d) - direction(a, b));
        if (toD == 0 || Math.abs(toD - toC) < HAIR) {
            return 2;
        }
        return toD < toC ? 1 : 0;
    }

    long cross(int a, int b, int c, int d) {
        if (none(a, b, c, d)) {
            return BAD;
        }
        long ux = x(b) - x(a), uy = y(b) - y(a), vx = x(d) - x(c), vy = y(d) - y(c);
        long wx = x(c) - x(a), wy = y(c) - y(a);
        long den = ux * vy - uy * vx;
        if (den != 0) {
            long t = (wx * vy - wy * vx) * Long.signum(den);
            long s = (wx * uy - wy * ux) * Long.signum(den);
            long full = Math.abs(den);
            if (t < 0 || t > full || s < 0 || s > full) {
                return 0;
            }
            return t == 0 || t == full || s == 0 || s == full ? 2 : 1;
        }
        Set<String> common = new HashSet<>();
        int[] ends = {a, b, c, d};
        for (int i = 0; i < 4; i++) {
            int[] way = i < 2 ? new int[] {c, d} : new int[] {a, b};
            if (onWay(way[0], way[1], ends[i])) {
                common.add(x(ends[i]) + " " + y(ends[i]));
            }
        }
        return common.isEmpty() ? 0 : common.size() == 1 ? 2 : 3;
    }

    // By the cross ratio (a - c) (b - d) / ((a - d) (b - c)) as complex numbers: real on a circle or line.
    long separated(int a, int b, int c, int d) {
        if (none(a, b, c, d)) {
            return BAD;
        }
        int[] four = {a, b, c, d};
        for (int i = 0; i < 4; i++) {
            for (int j = 0; j < i; j++) {
                if (equal(four[i], four[j])) {
                    return NOT;
                }
            }
        }
        BigInteger[] up = times(less(a, c), less(b, d));
        BigInteger[] down = times(less(a, d), less(b, c));
        BigInteger[] ratio = times(up, new BigInteger[] {down[0], down[1].negate()});
        return ratio[1].signum() != 0 ? NOT : ratio[0].signum() < 0 ? 1 : 0;
    }

    long convex(int n) {
        if (n < 3 || n > row.length) {
            return BAD;
        }
        if (holes(n)) {
            return NOT;
        }
        Set<Integer> sides = new HashSet<>();
        for (int i = 0; i < n; i++) {
            for (int k = 2; k < n; k++) {
                sides.add(turn(row[i], row[(i + 1) % n], row[(i + k) % n]));
            }
        }
        return sides.size() == 1 ? sides.iterator().next() : 0;
    }

    long polygon(int n, int p) {
        if (none(p) || wrong(n)) {
            return BAD;
        }
        if (holes(n)) {
            return NOT;
        }
        return onEdge(n, p) ? 2 : Math.floorMod(rounds(n, p), 2);
    }

    long winding(int n, int p) {
        if (none(p) || wrong(n) || holes(n)) {
            return -100;
        }
        return onEdge(n, p) ? 100 : rounds(n, p);
    }

    private int rounds(int n, int p) {
        double sum = 0;
        for (int i = 0; i < n; i++) {
            double angle = direction(p, row[(i + 1) % n]) - direction(p, row[i]);
            sum += angle > Math.PI ? angle - 2 * Math.PI : angle < -Math.PI ? angle + 2 * Math.PI : angle;
        }
        return (int) Math.round(sum / (2 * Math.PI));
    }

    private boolean onEdge(int n, int p) {
        for (int i = 0; i < n; i++) {
            if (onWay(row[i], row[(i + 1) % n], p)) {
                return true;
            }
        }
        return false;
    }

    long nearest(int a, int n) {
        if (none(a) || wrong(n)) {
            return BAD;
        }
        if (holes(n)) {
            return NOT;
        }
        int bits = 0;
        for (int i = 0; i < n; i++) {
            boolean least = true;
            for (int j = 0; j < n; j++) {
                least &= far(a, row[i]) <= far(a, row[j]);
            }
            bits |= least ? 1 << i : 0;
        }
        return bits;
    }

    long around(int c, int n, int i) {
        if (none(c) || wrong(n) || i < 0 || i >= n) {
            return BAD;
        }
        if (holes(n)) {
            return NOT;
        }
        Comparator<Integer> equalFirst = Comparator.comparing(k -> !equal(c, row[k]));
        return sorted(n, equalFirst.thenComparing((k, m) -> {
            double difference = equal(c, row[k]) ? 0 : around(direction(c, row[k])) - around(direction(c, row[m]));
            return Math.abs(difference) < HAIR ? 0 : difference < 0 ? -1 : 1;
        }).thenComparing(k -> far(c, row[k]))).get(i);
    }

    long order(int n, int i) {
        if (wrong(n) || i < 0 || i >= n) {
            return BAD;
        }
        if (holes(n)) {
            return NOT;
        }
        Comparator<Integer> byX = Comparator.comparing(k -> x(row[k]));
        return sorted(n, byX.thenComparing(k -> y(row[k]))).get(i);
    }

    private static List<Integer> sorted(int n, Comparator<Integer> order) {
        List<Integer> places = new ArrayList<>();
        for (int k = 0; k < n; k++) {
            places.add(k);
        }
        places.sort(order);
        return places;
    }

    long area(int n, long by) {
        if (wrong(n) || holes(n)) {
            return 0;
        }
        if (by == 0) {
            throw new ArithmeticException();
        }
        BigInteger sum = BigInteger.ZERO;
        for (int i = 0; i < n; i++) {
            int p = row[i];
            int q = row[(i + 1) % n];
            sum = sum.add(BigInteger.valueOf((x(p) - x(q)) * (y(p) + y(q))));
        }
        return sum.divide(BigInteger.valueOf(by)).longValueExact();
    }

    long line(int a, int b) {
        if (none(a, b)) {
            return BAD;
        }
        if (equal(a, b)) {
            return NOT;
        }
        if (lines.size() == 12) {
            return FULL;
        }
        lines.add(lowestTerms(y(b) - y(a), x(a) - x(b), (y(b) - y(a)) * x(a) + (x(a) - x(b)) * y(a)));
        return lines.size() - 1;
    }

    long lines(int n, int what) {
        if (n < 0 || n > lines.size() || what < 0 || what > 5) {
            return BAD;
        }
        Map<String, long[]> different = new HashMap<>();
        for (long[] l : lines.subList(0, n)) {
            different.put(Arrays.toString(l), l);
        }
        Map<String, Set<String>> meets = new HashMap<>();
        int pieces = 0;
        int closedPieces = 0;
        for (long[] l : different.values()) {
            Set<String> onIt = new HashSet<>();
            for (long[] m : different.values()) {
                long w = l[0] * m[1] - m[0] * l[1];
                if (w != 0) {
                    String meet = Arrays.toString(lowestTerms(w, l[2] * m[1] - m[2] * l[1], l[0] * m[2] - m[0] * l[2]));
                    onIt.add(meet);
                    meets.computeIfAbsent(meet, k -> new HashSet<>()).add(Arrays.toString(l));
                }
            }
            pieces += onIt.size() + 1;
            closedPieces += Math.max(0, onIt.size() - 1);
        }
        // Euler: vertices - edges + faces = 2, with one vertex far away where every line ends twice.
        int cells = different.isEmpty() ? 1 : meets.isEmpty() ? different.size() + 1 : 2 - (meets.size() + 1) + pieces;
        int closed = meets.isEmpty() ? 0 : 1 - meets.size() + closedPieces;
        int most = meets.values().stream().mapToInt(Set::size).max().orElse(0);
        return new int[] {different.size(), meets.size(), cells, pieces, closed, most}[what];
    }

    long count(int what) {
        return what < 0 || what > 3 ? BAD : new int[] {points.size(), row.length, lines.size(), on ? 1 : 0}[what];
    }

    private static long[] lowestTerms(long... numbers) {
        BigInteger divisor = BigInteger.ZERO;
        for (long number : numbers) {
            divisor = divisor.gcd(BigInteger.valueOf(number));
        }
        long by = divisor.longValueExact();
        boolean turned = numbers[0] < 0 || numbers[0] == 0 && numbers[1] < 0;
        return Arrays.stream(numbers).map(number -> number / by * (turned ? -1 : 1)).toArray();
    }

    // Where the circle's centre is, as fractions, and who is farther from it.
    private int ring(int a, int b, int c, int d) {
        BigInteger bx = big(x(b) - x(a)), by = big(y(b) - y(a)), cx = big(x(c) - x(a)), cy = big(y(c) - y(a));
        BigInteger bs = bx.multiply(bx).add(by.multiply(by)), cs = cx.multiply(cx).add(cy.multiply(cy));
        BigInteger den = bx.multiply(cy).subtract(by.multiply(cx)).shiftLeft(1);
        BigInteger ox = cy.multiply(bs).subtract(by.multiply(cs));
        BigInteger oy = bx.multiply(cs).subtract(cx.multiply(bs));
        BigInteger dx = big(x(d) - x(a)).multiply(den).subtract(ox);
        BigInteger dy = big(y(d) - y(a)).multiply(den).subtract(oy);
        BigInteger radius = ox.multiply(ox).add(oy.multiply(oy));
        return radius.compareTo(dx.multiply(dx).add(dy.multiply(dy)));
    }

    private int turn(int a, int b, int c) {
        BigInteger sum = BigInteger.ZERO;
        int[] corner = {a, b, c};
        for (int i = 0; i < 3; i++) {
            int p = corner[i];
            int q = corner[(i + 1) % 3];
            sum = sum.add(big(x(p)).multiply(big(y(q)))).subtract(big(x(q)).multiply(big(y(p))));
        }
        return sum.signum();
    }

    private boolean onWay(int a, int b, int p) {
        boolean inBox = Math.min(x(a), x(b)) <= x(p) && x(p) <= Math.max(x(a), x(b))
            && Math.min(y(a), y(b)) <= y(p) && y(p) <= Math.max(y(a), y(b));
        return inBox && turn(a, b, p) == 0;
    }

    private double direction(int from, int to) {
        return Math.atan2(y(to) - y(from), x(to) - x(from));
    }

    private static double around(double angle) {
        double turned = angle;
        while (turned < -HAIR) {
            turned += 2 * Math.PI;
        }
        while (turned > 2 * Math.PI - HAIR) {
            turned -= 2 * Math.PI;
        }
        return Math.abs(turned) < HAIR ? 0 : turned;
    }

    private BigInteger[] less(int p, int q) {
        return new BigInteger[] {big(x(p) - x(q)), big(y(p) - y(q))};
    }

    private static BigInteger[] times(BigInteger[] u, BigInteger[] v) {
        return new BigInteger[] {u[0].multiply(v[0]).subtract(u[1].multiply(v[1])), u[0].multiply(v[1]).add(u[1].multiply(v[0]))};
    }

    private static BigInteger big(long value) {
        return BigInteger.valueOf(value);
    }

    private double far(int p, int q) {
        double dx = x(p) - x(q);
        double dy = y(p) - y(q);
        return dx * dx + dy * dy;
    }

    private boolean equal(int a, int b) {
        return Arrays.equals(points.get(a), points.get(b));
    }

    private boolean none(int... numbers) {
        return Arrays.stream(numbers).anyMatch(p -> p < 0 || p >= points.size());
    }

    private boolean wrong(int n) {
        return n < 1 || n > row.length;
    }

    private boolean holes(int n) {
        return Arrays.stream(row, 0, n).anyMatch(p -> p == NONE);
    }

    private long x(int p) {
        return points.get(p)[0];
    }

    private long y(int p) {
        return points.get(p)[1];
    }
}
