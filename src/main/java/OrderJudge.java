/**
 * Orders of points in the plane by exact signs, with a quick filter in floats
 * that decides what is clear and never what is 0. README.md tells how to use it.
 */
public final class OrderJudge {
    public static final int NONE = -1, BAD = -2, FULL = -3, NOT = -4;

    private static final int MOST_POINTS = 60, MOST_PLACES = 24, MOST_LINES = 12;
    private static final int FARTHEST = 800, SCALE = 12;
    private static final int FEWEST_CONVEX = 3;
    private static final int WINDING_ON_EDGE = 100, WINDING_REFUSED = -100;
    private static final int ALLOWED = 0;

    private final Plane plane;
    private final Filter quick;
    private final Row row;
    private final Drawing drawing;

    public OrderJudge() {
        plane = new Plane();
        quick = new Filter(plane);
        row = new Row(plane);
        drawing = new Drawing();
    }

    public int point(long x, long y, long down) {
        if (!isCoordinate(x) || !isCoordinate(y) || !isDown(down)) {
            return BAD;
        }
        if (plane.many >= MOST_POINTS) {
            return FULL;
        }
        int factor = SCALE / (int) down;
        return plane.add((int) x * factor, (int) y * factor);
    }

    // ---- the row

    public int size(int n) throws NegativeArraySizeException {
        if (n > MOST_PLACES) {
            return BAD;
        }
        if (n < 0) {
            throw new NegativeArraySizeException("n is below 0");
        }
        return row.resize(n);
    }

    public int of(int i, int point) throws ArrayIndexOutOfBoundsException {
        if (point != NONE && !plane.has(point)) {
            return BAD;
        }
        if (!row.hasPlace(i)) {
            throw new ArrayIndexOutOfBoundsException("no such PLACE");
        }
        return row.put(i, point);
    }

    public int at(int i, int what) throws ArrayIndexOutOfBoundsException, NullPointerException {
        if (!row.hasPlace(i)) {
            throw new ArrayIndexOutOfBoundsException("no such PLACE");
        }
        int p = row.held[i];
        if (p == NONE) {
            throw new NullPointerException("the PLACE has NONE");
        }
        if (what == 0) {
            return plane.xs[p];
        }
        return what == 1 ? plane.ys[p] : p;
    }

    // ---- signs

    public int side(int a, int b, int c) {
        if (!plane.has(a) || !plane.has(b) || !plane.has(c)) {
            return BAD;
        }
        if (plane.same(a, b)) {
            return NOT;
        }
        int clear = quick.on ? quick.clearTurn(a, b, c) : 0;
        int sign = clear != 0 ? clear : plane.turn(a, b, c);
        quick.tally(clear != 0, sign);
        return sign;
    }

    public int circle(int a, int b, int c, int d) {
        if (!plane.hasAll(a, b, c, d)) {
            return BAD;
        }
        int turn = plane.turn(a, b, c);
        if (turn == 0) {
            return NOT;
        }
        int clear = quick.on ? quick.clearLift(a, b, c, d) : 0;
        int sign = turn * (clear != 0 ? clear : plane.lift(a, b, c, d));
        quick.tally(clear != 0, sign);
        return sign;
    }

    public int filter(boolean on) {
        boolean was = quick.on;
        quick.on = on;
        return was ? 1 : 0;
    }

    public int decided(int what) {
        switch (what) {
            case 0: return quick.clears;
            case 1: return quick.unclears;
            case 2: return quick.zeros;
            default: return BAD;
        }
    }

    // ---- orders of a few

    public int between(int a, int b, int c) {
        if (!plane.has(a) || !plane.has(b) || !plane.has(c)) {
            return BAD;
        }
        if (plane.same(a, b) || plane.same(b, c)) {
            return 2;
        }
        return plane.onWay(a, c, b) ? 1 : 0;
    }

    public int inside(int a, int b, int c, int d) {
        if (!plane.hasAll(a, b, c, d)) {
            return BAD;
        }
        if (plane.same(a, b) || plane.same(a, c)) {
            return NOT;
        }
        if (plane.same(a, d) || plane.oneDirection(a, b, d) || plane.oneDirection(a, c, d)) {
            return 2;
        }
        return plane.strictlyInAngle(a, b, c, d) ? 1 : 0;
    }

    public int cross(int a, int b, int c, int d) {
        if (!plane.hasAll(a, b, c, d)) {
            return BAD;
        }
        return plane.allInLine(a, b, c, d) ? plane.overlap(a, b, c, d) : plane.meeting(a, b, c, d);
    }

    public int separated(int a, int b, int c, int d) {
        if (!plane.hasAll(a, b, c, d)) {
            return BAD;
        }
        if (plane.anySame(a, b, c, d)) {
            return NOT;
        }
        if (plane.allInLine(a, b, c, d)) {
            return plane.onWay(a, b, c) != plane.onWay(a, b, d) ? 1 : 0;
        }
        int sideOfC = plane.turn(a, b, c);
        if (sideOfC == 0 || plane.lift(a, b, c, d) != 0) {
            return NOT;
        }
        return sideOfC != plane.turn(a, b, d) ? 1 : 0;
    }

    // ---- orders of the row (n is 1 and more, up to how many PLACES there are)

    public int convex(int n) {
        if (n < FEWEST_CONVEX) {
            return BAD;
        }
        int refusal = row.refusal(n);
        return refusal != ALLOWED ? refusal : row.commonSide(n);
    }

    public int polygon(int n, int p) {
        int refusal = refusalWithPoint(n, p);
        if (refusal != ALLOWED) {
            return refusal;
        }
        if (row.onAnyEdge(n, p)) {
            return 2;
        }
        return (row.rises(n, p) + row.falls(n, p)) & 1;
    }

    public int winding(int n, int p) {
        if (refusalWithPoint(n, p) != ALLOWED) {
            return WINDING_REFUSED;
        }
        if (row.onAnyEdge(n, p)) {
            return WINDING_ON_EDGE;
        }
        return row.rises(n, p) - row.falls(n, p);
    }

    public int nearest(int a, int n) {
        int refusal = refusalWithPoint(n, a);
        return refusal != ALLOWED ? refusal : row.nearestBits(a, n);
    }

    public int around(int c, int n, int i) {
        if (!isRank(i, n)) {
            return BAD;
        }
        int refusal = refusalWithPoint(n, c);
        return refusal != ALLOWED ? refusal : row.placeOfRank(n, i, c);
    }

    public int order(int n, int i) {
        if (!isRank(i, n)) {
            return BAD;
        }
        int refusal = row.refusal(n);
        return refusal != ALLOWED ? refusal : row.placeOfRank(n, i, NONE);
    }

    public long area(int n, long by) throws ArithmeticException {
        if (row.refusal(n) != ALLOWED) {
            return 0;
        }
        if (by == 0) {
            throw new ArithmeticException("by is 0");
        }
        return row.doubleArea(n) / by;
    }

    // ---- lines

    public int line(int a, int b) {
        if (!plane.has(a) || !plane.has(b)) {
            return BAD;
        }
        if (plane.same(a, b)) {
            return NOT;
        }
        if (drawing.many >= MOST_LINES) {
            return FULL;
        }
        return drawing.add(plane.xs[a], plane.ys[a], plane.xs[b], plane.ys[b]);
    }

    public int lines(int n, int what) {
        if (n < 0 || n > drawing.many || what < 0 || what > 5) {
            return BAD;
        }
        drawing.survey(n);
        switch (what) {
            case 0: return drawing.differents;
            case 1: return drawing.meets;
            case 2: return drawing.cells();
            case 3: return drawing.differents + drawing.passings;
            case 4: return drawing.closedCells();
            default: return drawing.mostPassings;
        }
    }

    public int count(int what) {
        switch (what) {
            case 0: return plane.many;
            case 1: return row.many;
            case 2: return drawing.many;
            case 3: return quick.on ? 1 : 0;
            default: return BAD;
        }
    }

    private int refusalWithPoint(int n, int p) {
        return plane.has(p) ? row.refusal(n) : BAD;
    }

    private static boolean isRank(int i, int n) {
        return i >= 0 && i < n;
    }

    private static boolean isCoordinate(long value) {
        return value >= -FARTHEST && value <= FARTHEST;
    }

    // The numbers that the document lists are just those that divide 12.
    private static boolean isDown(long down) {
        return down >= 1 && down <= SCALE && SCALE % down == 0;
    }

    private static int signOf(long value) {
        if (value > 0) {
            return 1;
        }
        return value < 0 ? -1 : 0;
    }

    /** The POINTS and what is reckoned of them in whole numbers; no sum here passes 2 to the 61. */
    private static final class Plane {
        final int[] xs = new int[MOST_POINTS];
        final int[] ys = new int[MOST_POINTS];
        int many;

        int add(int x, int y) {
            xs[many] = x;
            ys[many] = y;
            many++;
            return many - 1;
        }

        boolean has(int p) {
            return p >= 0 && p < many;
        }

        boolean hasAll(int a, int b, int c, int d) {
            return has(a) && has(b) && has(c) && has(d);
        }

        boolean same(int a, int b) {
            return xs[a] == xs[b] && ys[a] == ys[b];
        }

        boolean anySame(int a, int b, int c, int d) {
            return same(a, b) || same(a, c) || same(a, d) || same(b, c) || same(b, d) || same(c, d);
        }

        int turn(int a, int b, int c) {
            long left = (long) (xs[b] - xs[a]) * (ys[c] - ys[a]);
            long right = (long) (ys[b] - ys[a]) * (xs[c] - xs[a]);
            return signOf(left - right);
        }

        // The latter sign of RING.
        int lift(int a, int b, int c, int d) {
            long xa = xs[a] - xs[d], ya = ys[a] - ys[d];
            long xb = xs[b] - xs[d], yb = ys[b] - ys[d];
            long xc = xs[c] - xs[d], yc = ys[c] - ys[d];
            long sa = xa * xa + ya * ya, sb = xb * xb + yb * yb, sc = xc * xc + yc * yc;
            return signOf(sa * (xb * yc - yb * xc) + sb * (xc * ya - yc * xa) + sc * (xa * yb - ya * xb));
        }

        // Above 0: b and c lie less than a quarter turn apart, seen from a.
        long dot(int a, int b, int c) {
            return (long) (xs[b] - xs[a]) * (xs[c] - xs[a]) + (long) (ys[b] - ys[a]) * (ys[c] - ys[a]);
        }

        // The square of it: roots are not exact.
        long distance(int a, int b) {
            return dot(a, b, b);
        }

        boolean oneDirection(int a, int b, int c) {
            return turn(a, b, c) == 0 && dot(a, b, c) > 0;
        }

        // With both ends; a and b may be EQUAL.
        boolean onWay(int a, int b, int p) {
            return turn(a, b, p) == 0 && dot(p, a, b) <= 0;
        }

        // For d in neither direction: those are told before. With b and c in one direction nothing is within.
        boolean strictlyInAngle(int a, int b, int c, int d) {
            if (turn(a, b, c) >= 0) {
                return turn(a, b, d) > 0 && turn(a, d, c) > 0;
            }
            return turn(a, c, d) <= 0 || turn(a, d, b) <= 0;
        }

        // All four, as either way may be a single point.
        boolean allInLine(int a, int b, int c, int d) {
            return turn(a, b, c) == 0 && turn(a, b, d) == 0 && turn(c, d, a) == 0 && turn(c, d, b) == 0;
        }

        // What two ways in one line have in common, as cross() tells it.
        int overlap(int a, int b, int c, int d) {
            int begin = later(earlier(a, b), earlier(c, d));
            int end = earlier(later(a, b), later(c, d));
            int sign = compareAcross(begin, end);
            if (sign > 0) {
                return 0;
            }
            return sign == 0 ? 2 : 3;
        }

        // What two ways that are not in one line have in common, as cross() tells it.
        int meeting(int a, int b, int c, int d) {
            if (turn(a, b, c) * turn(a, b, d) < 0 && turn(c, d, a) * turn(c, d, b) < 0) {
                return 1;
            }
            boolean atEnd = onWay(a, b, c) || onWay(a, b, d) || onWay(c, d, a) || onWay(c, d, b);
            return atEnd ? 2 : 0;
        }

        int earlier(int p, int q) {
            return compareAcross(p, q) <= 0 ? p : q;
        }

        int later(int p, int q) {
            return compareAcross(p, q) <= 0 ? q : p;
        }

        int compareAcross(int p, int q) {
            int byX = signOf(xs[p] - xs[q]);
            return byX != 0 ? byX : signOf(ys[p] - ys[q]);
        }

        int compareRound(int c, int p, int q) {
            int part = partRound(c, p);
            int byPart = signOf(part - partRound(c, q));
            if (byPart != 0 || part == 0) {
                return byPart;
            }
            int byTurn = turn(c, q, p);
            return byTurn != 0 ? byTurn : signOf(distance(c, p) - distance(c, q));
        }

        // 0: EQUAL; 1, 2: the halves of a full turn, within which TURN alone tells which comes first.
        private int partRound(int c, int p) {
            if (same(c, p)) {
                return 0;
            }
            return ys[p] > ys[c] || ys[p] == ys[c] && xs[p] > xs[c] ? 1 : 2;
        }
    }

    /** THE FILTER: the signs in floats, and how many of them were clear. */
    private static final class Filter {
        private final Plane plane;
        boolean on = true;
        int clears, unclears, zeros;

        Filter(Plane plane) {
            this.plane = plane;
        }

        void tally(boolean clear, int sign) {
            if (clear) {
                clears++;
            } else {
                unclears++;
            }
            if (sign == 0) {
                zeros++;
            }
        }

        // 0: not decided.
        int clearTurn(int a, int b, int c) {
            float value = (x(b) - x(a)) * (y(c) - y(a)) - (y(b) - y(a)) * (x(c) - x(a));
            float reach = reachOfThree(a, b, c);
            return clearSign(value, reach * reach * 0.000003814697265625f);
        }

        // 0: not decided. The order of the acts is the document's: each one rounds.
        int clearLift(int a, int b, int c, int d) {
            float xa = x(a) - x(d), ya = y(a) - y(d);
            float xb = x(b) - x(d), yb = y(b) - y(d);
            float xc = x(c) - x(d), yc = y(c) - y(d);
            float sa = xa * xa + ya * ya, sb = xb * xb + yb * yb, sc = xc * xc + yc * yc;
            float value = (sa * (xb * yc - yb * xc) + sb * (xc * ya - yc * xa)) + sc * (xa * yb - ya * xb);
            float reach = larger(reachOfThree(a, b, c), reach(d));
            return clearSign(value, (reach * reach) * (reach * reach) * 0.000244140625f);
        }

        // SIZE is of the POINTS that the call tells alone, as no others are rounded in it.
        private float reachOfThree(int a, int b, int c) {
            return larger(larger(reach(a), reach(b)), reach(c));
        }

        private float reach(int p) {
            return larger(unsigned(x(p)), unsigned(y(p)));
        }

        private static int clearSign(float value, float doubt) {
            if (unsigned(value) > doubt) {
                return value > 0.0f ? 1 : -1;
            }
            return 0;
        }

        private float x(int p) {
            return (float) plane.xs[p] / 12.0f;
        }

        private float y(int p) {
            return (float) plane.ys[p] / 12.0f;
        }

        private static float unsigned(float value) {
            return value < 0.0f ? -value : value;
        }

        private static float larger(float one, float other) {
            return one >= other ? one : other;
        }
    }

    /** THE ROW; what takes n wants refusal(n) to have allowed it. */
    private static final class Row {
        private final Plane plane;
        final int[] held = new int[MOST_PLACES];
        int many;

        Row(Plane plane) {
            this.plane = plane;
        }

        int resize(int n) {
            int had = many;
            for (int i = 0; i < n; i++) {
                held[i] = NONE;
            }
            many = n;
            return had;
        }

        boolean hasPlace(int i) {
            return i >= 0 && i < many;
        }

        int put(int i, int p) {
            int had = held[i];
            held[i] = p;
            return had;
        }

        int refusal(int n) {
            if (n < 1 || n > many) {
                return BAD;
            }
            for (int i = 0; i < n; i++) {
                if (held[i] == NONE) {
                    return NOT;
                }
            }
            return ALLOWED;
        }

        // 1 or -1, if all PLACES lie to that side of all EDGES but their own, else 0.
        int commonSide(int n) {
            int common = plane.turn(held[0], held[1], held[2]);
            for (int edge = 0; edge < n; edge++) {
                int next = following(edge, n);
                for (int i = 0; i < n; i++) {
                    boolean other = i != edge && i != next;
                    if (other && plane.turn(held[edge], held[next], held[i]) != common) {
                        return 0;
                    }
                }
            }
            return common;
        }

        boolean onAnyEdge(int n, int p) {
            for (int edge = 0; edge < n; edge++) {
                if (plane.onWay(held[edge], held[following(edge, n)], p)) {
                    return true;
                }
            }
            return false;
        }

        int rises(int n, int p) {
            int found = 0;
            for (int edge = 0; edge < n; edge++) {
                if (climbsPast(held[edge], held[following(edge, n)], p)) {
                    found++;
                }
            }
            return found;
        }

        // An EDGE that FALLS is one that RISES, gone backwards.
        int falls(int n, int p) {
            int found = 0;
            for (int edge = 0; edge < n; edge++) {
                if (climbsPast(held[following(edge, n)], held[edge], p)) {
                    found++;
                }
            }
            return found;
        }

        private boolean climbsPast(int low, int high, int p) {
            boolean climbs = plane.ys[low] <= plane.ys[p] && plane.ys[high] > plane.ys[p];
            return climbs && plane.turn(low, high, p) == 1;
        }

        int nearestBits(int a, int n) {
            long least = plane.distance(a, held[0]);
            int bits = 0;
            for (int i = 0; i < n; i++) {
                long distance = plane.distance(a, held[i]);
                if (distance < least) {
                    least = distance;
                    bits = 0;
                }
                if (distance == least) {
                    bits |= 1 << i;
                }
            }
            return bits;
        }

        // Counting who comes before spares a second row to sort in.
        int placeOfRank(int n, int rank, int centre) {
            for (int i = 0; i < n; i++) {
                if (howManyBefore(n, i, centre) == rank) {
                    return i;
                }
            }
            return BAD;
        }

        private int howManyBefore(int n, int i, int centre) {
            int found = 0;
            for (int other = 0; other < n; other++) {
                int sign = compare(other, i, centre);
                if (sign < 0 || sign == 0 && other < i) {
                    found++;
                }
            }
            return found;
        }

        // Round the centre, or, if that is NONE, by X and Y.
        private int compare(int i, int j, int centre) {
            if (centre == NONE) {
                return plane.compareAcross(held[i], held[j]);
            }
            return plane.compareRound(centre, held[i], held[j]);
        }

        long doubleArea(int n) {
            long sum = 0;
            for (int edge = 0; edge < n; edge++) {
                int begin = held[edge];
                int end = held[following(edge, n)];
                sum += (long) plane.xs[begin] * plane.ys[end] - (long) plane.xs[end] * plane.ys[begin];
            }
            return sum;
        }

        private static int following(int place, int n) {
            return place + 1 < n ? place + 1 : 0;
        }
    }

    /** The LINES, each as (a, b, c) with a X + b Y + c = 0 on it, and what the last survey found. */
    private static final class Drawing {
        private final long[] as = new long[MOST_LINES];
        private final long[] bs = new long[MOST_LINES];
        private final long[] cs = new long[MOST_LINES];
        private final int[] different = new int[MOST_LINES];
        int many;
        int differents;
        int meets;
        // How many DIFFERENT ones go through each MEET: of all MEETS together, and at the most.
        int passings, mostPassings;

        int add(int x, int y, int toX, int toY) {
            as[many] = y - toY;
            bs[many] = toX - x;
            cs[many] = (long) x * toY - (long) toX * y;
            many++;
            return many - 1;
        }

        void survey(int n) {
            gatherDifferent(n);
            meets = 0;
            passings = 0;
            mostPassings = 0;
            for (int j = 0; j < differents; j++) {
                for (int i = 0; i < j; i++) {
                    surveyMeet(i, j);
                }
            }
        }

        int cells() {
            return 1 + differents + passings - meets;
        }

        // Far away, lines that are not all parallel leave two parts each.
        int closedCells() {
            return meets == 0 ? 0 : cells() - 2 * differents;
        }

        private void gatherDifferent(int n) {
            differents = 0;
            for (int line = 0; line < n; line++) {
                if (isNew(line)) {
                    different[differents] = line;
                    differents++;
                }
            }
        }

        private boolean isNew(int line) {
            for (int k = 0; k < differents; k++) {
                int other = different[k];
                if (weight(other, line) == 0 && momentX(other, line) == 0 && momentY(other, line) == 0) {
                    return false;
                }
            }
            return true;
        }

        // A MEET counts with the first two of its lines alone, so that no fractions need be compared.
        private void surveyMeet(int i, int j) {
            long w = weight(different[i], different[j]);
            if (w == 0) {
                return;
            }
            long x = momentX(different[i], different[j]);
            long y = momentY(different[i], different[j]);
            int through = 0;
            for (int k = 0; k < differents; k++) {
                int line = different[k];
                if (as[line] * x + bs[line] * y + cs[line] * w == 0) {
                    if (k < j && k != i) {
                        return;
                    }
                    through++;
                }
            }
            meets++;
            passings += through;
            mostPassings = Math.max(mostPassings, through);
        }

        // Two lines cross at (momentX / weight, momentY / weight); weight 0: they are parallel.
        private long weight(int one, int other) {
            return as[one] * bs[other] - as[other] * bs[one];
        }

        private long momentX(int one, int other) {
            return bs[one] * cs[other] - bs[other] * cs[one];
        }

        private long momentY(int one, int other) {
            return cs[one] * as[other] - cs[other] * as[one];
        }
    }
}
