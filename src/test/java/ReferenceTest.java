import java.util.Random;

/** Random runs of at most 512 calls, each answer against the Reference; the seeds are fixed. */
public final class ReferenceTest {
    private static final Check CHECK = new Check("ReferenceTest");
    private static final int RUNS = 3000;
    private static final int CALLS = 512;
    private static final String[] NAMES = {
        "point", "size", "of", "at", "side", "circle", "filter", "decided", "between", "inside", "cross", "separated",
        "convex", "polygon", "winding", "nearest", "around", "order", "area", "line", "lines", "count",
    };
    private static final long[] DOWNS = {1, 2, 3, 4, 6, 12};
    // Legs of right triangles with the long side 25: many points of these lie on one circle.
    private static final long[][] ON_CIRCLE = {{25, 0}, {24, 7}, {20, 15}, {15, 20}, {7, 24}, {0, 25}};

    private final Random random;
    private final OrderJudge judge = new OrderJudge();
    private final Reference reference = new Reference();
    private final int kind;
    private int points;
    private int places;
    private int filled;

    private ReferenceTest(int seed) {
        random = new Random(seed);
        kind = random.nextInt(6);
    }

    public static void main(String[] args) {
        for (int seed = 0; seed < RUNS; seed++) {
            new ReferenceTest(seed).run(seed);
        }
        CHECK.end();
    }

    private void run(int seed) {
        int stated = random.nextInt(62);
        for (int call = 0; call < CALLS; call++) {
            int which = call < stated ? 0 : call == stated ? 1 : filled < places ? 2 : random.nextInt(NAMES.length);
            int[] a = {number(), number(), number(), number()};
            if (random.nextInt(12) != 0) {
                steer(which, a);
            }
            compare(seed, which, a, which == 0 ? newPoint() : new long[] {by(), 0, 0});
        }
    }

    // Makes a call one that is most likely allowed.
    private void steer(int which, int[] a) {
        int n = 1 + random.nextInt(Math.max(1, places));
        switch (NAMES[which]) {
            case "size":
                a[0] = random.nextInt(25);
                break;
            case "of":
                a[0] = filled < places ? filled : n - 1;
                break;
            case "at":
                a[0] = n - 1;
                a[1] = random.nextInt(3);
                break;
            case "convex":
            case "polygon":
            case "winding":
            case "area":
                a[0] = n;
                break;
            case "nearest":
                a[1] = n;
                break;
            case "around":
                a[1] = n;
                a[2] = random.nextInt(n);
                break;
            case "order":
                a[0] = n;
                a[1] = random.nextInt(n);
                break;
            case "lines":
                a[0] = random.nextInt(13);
                break;
            default:
                break;
        }
    }

    private void compare(int seed, int which, int[] a, long[] p) {
        String told = "seed " + seed + ": " + NAMES[which] + " of " + a[0] + ", " + a[1] + ", " + a[2] + ", " + a[3]
            + "; " + p[0] + ", " + p[1] + ", " + p[2];
        long due;
        try {
            due = ofReference(which, a, p);
        } catch (RuntimeException e) {
            CHECK.raises(told, e.getClass(), () -> ofJudge(which, a, p));
            return;
        }
        CHECK.is(told, ofJudge(which, a, p), due);
        if (which == 0 && due >= 0) {
            points++;
        }
        if (which == 1 && due != OrderJudge.BAD) {
            places = a[0];
            filled = 0;
        }
        if (which == 2 && filled < places) {
            filled++;
        }
    }

    // Mostly a POINT, at times none, or a number at an edge.
    private int number() {
        int[] odd = {-1, -2, 0, 1, 2, 24, 25, 59, 60, Integer.MAX_VALUE, Integer.MIN_VALUE};
        boolean oddly = points == 0 || random.nextInt(80) == 0;
        return oddly ? odd[random.nextInt(odd.length)] : random.nextInt(points);
    }

    private long by() {
        long[] some = {0, 1, -1, 2, -7, 144, Long.MAX_VALUE, Long.MIN_VALUE};
        return some[random.nextInt(some.length)];
    }

    private long[] newPoint() {
        if (random.nextInt(60) == 0) {
            return new long[] {random.nextInt(2000) - 1000, random.nextInt(2000) - 1000, random.nextInt(16) - 2};
        }
        long down = DOWNS[random.nextInt(6)];
        switch (kind) {
            case 0: return new long[] {random.nextInt(5), random.nextInt(5), 1};
            case 1: return new long[] {random.nextInt(1601) - 800, random.nextInt(1601) - 800, random.nextBoolean() ? 1 : down};
            case 2: return onCircle();
            case 3: return nearDiagonal();
            case 4: return new long[] {random.nextInt(40) - 20, random.nextInt(40) - 20, random.nextInt(9) == 0 ? 12 : 1};
            default: return new long[] {random.nextInt(9) * 100 - 400, random.nextInt(9) * 100 - 400, random.nextInt(4) == 0 ? down : 1};
        }
    }

    private long[] onCircle() {
        long[] leg = ON_CIRCLE[random.nextInt(ON_CIRCLE.length)];
        long far = random.nextInt(3) == 0 ? 31 : 1;
        long hair = random.nextInt(8) == 0 ? 1 : 0;
        return new long[] {leg[0] * far * (random.nextBoolean() ? 1 : -1) + hair, leg[1] * far * (random.nextBoolean() ? 1 : -1), 1};
    }

    private long[] nearDiagonal() {
        long t = random.nextInt(1599) - 799;
        return new long[] {t, t + random.nextInt(3) - 1, random.nextInt(3) == 0 ? 12 : 1};
    }

    private long ofJudge(int which, int[] a, long[] p) {
        switch (which) {
            case 0: return judge.point(p[0], p[1], p[2]);
            case 1: return judge.size(a[0]);
            case 2: return judge.of(a[0], a[1]);
            case 3: return judge.at(a[0], a[1]);
            case 4: return judge.side(a[0], a[1], a[2]);
            case 5: return judge.circle(a[0], a[1], a[2], a[3]);
            case 6: return judge.filter(a[0] % 3 != 0);
            case 7: return judge.decided(a[0] % 4);
            case 8: return judge.between(a[0], a[1], a[2]);
            case 9: return judge.inside(a[0], a[1], a[2], a[3]);
            case 10: return judge.cross(a[0], a[1], a[2], a[3]);
            case 11: return judge.separated(a[0], a[1], a[2], a[3]);
            case 12: return judge.convex(a[0]);
            case 13: return judge.polygon(a[0], a[1]);
            case 14: return judge.winding(a[0], a[1]);
            case 15: return judge.nearest(a[0], a[1]);
            case 16: return judge.around(a[0], a[1], a[2]);
            case 17: return judge.order(a[0], a[1]);
            case 18: return judge.area(a[0], p[0]);
            case 19: return judge.line(a[0], a[1]);
            case 20: return judge.lines(a[0], a[1] % 7);
            default: return judge.count(a[0] % 5);
        }
    }

    private long ofReference(int which, int[] a, long[] p) {
        switch (which) {
            case 0: return reference.point(p[0], p[1], p[2]);
            case 1: return reference.size(a[0]);
            case 2: return reference.of(a[0], a[1]);
            case 3: return reference.at(a[0], a[1]);
            case 4: return reference.side(a[0], a[1], a[2]);
            case 5: return reference.circle(a[0], a[1], a[2], a[3]);
            case 6: return reference.filter(a[0] % 3 != 0);
            case 7: return reference.decided(a[0] % 4);
            case 8: return reference.between(a[0], a[1], a[2]);
            case 9: return reference.inside(a[0], a[1], a[2], a[3]);
            case 10: return reference.cross(a[0], a[1], a[2], a[3]);
            case 11: return reference.separated(a[0], a[1], a[2], a[3]);
            case 12: return reference.convex(a[0]);
            case 13: return reference.polygon(a[0], a[1]);
            case 14: return reference.winding(a[0], a[1]);
            case 15: return reference.nearest(a[0], a[1]);
            case 16: return reference.around(a[0], a[1], a[2]);
            case 17: return reference.order(a[0], a[1]);
            case 18: return reference.area(a[0], p[0]);
            case 19: return reference.line(a[0], a[1]);
            case 20: return reference.lines(a[0], a[1] % 7);
            default: return reference.count(a[0] % 5);
        }
    }
}
