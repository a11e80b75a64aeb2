import java.util.Set;

/** Too small and too large: the last number that is taken, and the first one that isn't, on either side. */
public final class LimitsTest {
    private static final Check CHECK = new Check("LimitsTest");
    private static final int LEAST = Integer.MIN_VALUE, MOST = Integer.MAX_VALUE;
    private static final int BAD = OrderJudge.BAD;

    /** A call that is told POINTS: p. */
    interface OfPoints {
        long answer(OrderJudge judge, int[] p);
    }

    /** A call that is told of the first n PLACES. */
    interface OfPlaces {
        long answer(OrderJudge judge, int n);
    }

    public static void main(String[] args) {
        coordinates();
        downs();
        sizeAbove();
        sizeBelow();
        pointOfPlace();
        placeOfOf();
        placeOfAt();
        whatOfAt();
        pointsOfCalls();
        firstPlaces();
        convexOfThree();
        rankAround();
        rankInOrder();
        firstLines();
        whatOfDecided();
        whatOfLines();
        whatOfCount();
        areaBy();
        areaTowardsZero();
        greatestNumbers();
        smallestNumbers();
        CHECK.end();
    }

    private static void coordinates() {
        CHECK.sentence("x, y -800 .. 800");
        for (long down : new long[] {1, 2, 3, 4, 6, 12}) {
            OrderJudge judge = new OrderJudge();
            long[][] taken = {{800, 0}, {-800, 0}, {0, 800}, {0, -800}};
            for (int i = 0; i < taken.length; i++) {
                CHECK.is("the last that is taken, down " + down, judge.point(taken[i][0], taken[i][1], down), i);
            }
            for (long far : new long[] {801, 802, 9600, MOST, 1L << 32, (1L << 32) + 800, Long.MAX_VALUE}) {
                CHECK.is("x " + far, judge.point(far, 0, down), BAD);
                CHECK.is("y " + far, judge.point(0, far, down), BAD);
                CHECK.is("x " + -far, judge.point(-far, 0, down), BAD);
                CHECK.is("y " + -far, judge.point(0, -far, down), BAD);
            }
            CHECK.is("the least x", judge.point(Long.MIN_VALUE, 0, down), BAD);
            CHECK.is("the least y", judge.point(0, Long.MIN_VALUE, down), BAD);
            CHECK.is("none of these came in", judge.count(0), 4);
            expectPlace(judge, 0, 9600 / down, 0);
            expectPlace(judge, 1, -9600 / down, 0);
            expectPlace(judge, 2, 0, 9600 / down);
            expectPlace(judge, 3, 0, -9600 / down);
        }
    }

    private static void downs() {
        CHECK.sentence("down 1, 2, 3, 4, 6 or 12");
        OrderJudge judge = new OrderJudge();
        int next = 0;
        for (long down = -25; down <= 25; down++) {
            boolean taken = Set.of(1L, 2L, 3L, 4L, 6L, 12L).contains(down);
            CHECK.is("down " + down, judge.point(5, -7, down), taken ? next : BAD);
            if (taken) {
                expectPlace(judge, next, 60 / down, -84 / down);
                next++;
            }
        }
        for (long down : new long[] {144, MOST, LEAST, (1L << 32) + 1, (1L << 32) + 12, Long.MAX_VALUE, Long.MIN_VALUE}) {
            CHECK.is("down " + down, judge.point(0, 0, down), BAD);
        }
        CHECK.is("six came in", judge.count(0), 6);
    }

    private static void expectPlace(OrderJudge judge, int p, long x, long y) {
        Judges.row(judge, p);
        CHECK.is("X of " + p, judge.at(0, 0), x);
        CHECK.is("Y of " + p, judge.at(0, 1), y);
    }

    private static void sizeAbove() {
        CHECK.sentence("BAD: n is above 24");
        OrderJudge judge = new OrderJudge();
        CHECK.is("size(23)", judge.size(23), 0);
        CHECK.is("size(24)", judge.size(24), 23);
        for (int n : new int[] {25, 26, 60, MOST}) {
            CHECK.is("size(" + n + ")", judge.size(n), BAD);
        }
        CHECK.is("24 stand", judge.count(1), 24);
    }

    private static void sizeBelow() {
        CHECK.sentence("NegativeArraySizeException: n is below 0");
        OrderJudge judge = new OrderJudge();
        CHECK.is("size(1)", judge.size(1), 0);
        CHECK.is("size(0)", judge.size(0), 1);
        CHECK.is("size(3)", judge.size(3), 0);
        for (int n : new int[] {-1, -2, -24, LEAST}) {
            CHECK.raises("size(" + n + ")", NegativeArraySizeException.class, () -> judge.size(n));
        }
        CHECK.is("three stand", judge.count(1), 3);
    }

    private static void pointOfPlace() {
        CHECK.sentence("PLACE i gets a POINT, or NONE .. BAD: no such POINT");
        OrderJudge judge = Judges.with(1, 1, 2, 2, 3, 3);
        judge.size(1);
        CHECK.is("the first POINT", judge.of(0, 0), OrderJudge.NONE);
        CHECK.is("the last POINT", judge.of(0, 2), 0);
        for (int p : new int[] {3, 4, 60, MOST, -2, -3, -4, LEAST}) {
            CHECK.is("of(0, " + p + ")", judge.of(0, p), BAD);
        }
        CHECK.is("NONE", judge.of(0, -1), 2);
        CHECK.is("behind NONE", judge.of(0, 1), OrderJudge.NONE);
        CHECK.is("a new POINT", judge.point(4, 4, 1), 3);
        CHECK.is("now there is one", judge.of(0, 3), 1);
    }

    private static void placeOfOf() {
        CHECK.sentence("of: ArrayIndexOutOfBoundsException: no such PLACE");
        OrderJudge judge = Judges.with(1, 1);
        judge.size(5);
        CHECK.is("the first PLACE", judge.of(0, 0), OrderJudge.NONE);
        CHECK.is("the last PLACE", judge.of(4, 0), OrderJudge.NONE);
        for (int i : new int[] {5, 6, 23, 24, MOST, -1, -5, LEAST}) {
            CHECK.raises("of(" + i + ", 0)", ArrayIndexOutOfBoundsException.class, () -> judge.of(i, 0));
            CHECK.raises("of(" + i + ", NONE)", ArrayIndexOutOfBoundsException.class, () -> judge.of(i, OrderJudge.NONE));
        }
    }

    private static void placeOfAt() {
        CHECK.sentence("at: ArrayIndexOutOfBoundsException: no such PLACE");
        OrderJudge judge = Judges.with(1, 1, 2, 2);
        Judges.row(judge, 1, 0, 0, 0, 1);
        CHECK.is("the first PLACE", judge.at(0, 2), 1);
        CHECK.is("the last PLACE", judge.at(4, 2), 1);
        for (int i : new int[] {5, 6, 23, 24, MOST, -1, -5, LEAST}) {
            for (int what = 0; what < 3; what++) {
                int told = what;
                CHECK.raises("at(" + i + ", " + what + ")", ArrayIndexOutOfBoundsException.class, () -> judge.at(i, told));
            }
        }
        judge.size(4);
        CHECK.raises("one less", ArrayIndexOutOfBoundsException.class, () -> judge.at(4, 2));
        CHECK.raises("the last of those", NullPointerException.class, () -> judge.at(3, 2));
    }

    private static void whatOfAt() {
        CHECK.sentence("what = 0 X, 1 Y; another one: its number (any number)");
        OrderJudge judge = Judges.with(1, 1, 1, 1, 3, -4);
        Judges.row(judge, 2);
        CHECK.is("X", judge.at(0, 0), 36);
        CHECK.is("Y", judge.at(0, 1), -48);
        for (int what : new int[] {2, 3, MOST, -1, -2, LEAST}) {
            CHECK.is("at(0, " + what + ")", judge.at(0, what), 2);
        }
    }

    // POINTS 0 to 7 lie on one circle; PLACES 0 to 2 have 0, 2 and 5.
    private static OrderJudge ring() {
        OrderJudge judge = Judges.with(5, 0, 4, 3, 0, 5, -3, 4, -5, 0, -4, -3, 0, -5, 3, -4);
        Judges.row(judge, 0, 2, 5);
        return judge;
    }

    private static void pointsOfCalls() {
        CHECK.sentence("BAD: no such POINT");
        eachPoint("side", 3, BAD, (judge, p) -> judge.side(p[0], p[1], p[2]));
        eachPoint("circle", 4, BAD, (judge, p) -> judge.circle(p[0], p[1], p[2], p[3]));
        eachPoint("between", 3, BAD, (judge, p) -> judge.between(p[0], p[1], p[2]));
        eachPoint("inside", 4, BAD, (judge, p) -> judge.inside(p[0], p[1], p[2], p[3]));
        eachPoint("cross", 4, BAD, (judge, p) -> judge.cross(p[0], p[1], p[2], p[3]));
        eachPoint("separated", 4, BAD, (judge, p) -> judge.separated(p[0], p[1], p[2], p[3]));
        eachPoint("polygon", 1, BAD, (judge, p) -> judge.polygon(3, p[0]));
        eachPoint("winding", 1, -100, (judge, p) -> judge.winding(3, p[0]));
        eachPoint("nearest", 1, BAD, (judge, p) -> judge.nearest(p[0], 3));
        eachPoint("around", 1, BAD, (judge, p) -> judge.around(p[0], 3, 0));
        eachPoint("line", 2, BAD, (judge, p) -> judge.line(p[0], p[1]));
    }

    // In turn, each POINT that the call is told becomes the first one, the last one, and ones that are not there.
    private static void eachPoint(String name, int many, long refusal, OfPoints call) {
        for (int k = 0; k < many; k++) {
            OrderJudge judge = ring();
            for (int p : new int[] {0, 7}) {
                int[] told = {2, 3, 4, 5};
                told[k] = p;
                CHECK.holds(name + " is told " + p + " at " + k, call.answer(judge, told) > -2);
            }
            for (int p : new int[] {8, 9, 59, 60, MOST, -1, -2, LEAST}) {
                int[] told = {2, 3, 4, 5};
                told[k] = p;
                CHECK.is(name + " is told " + p + " at " + k, call.answer(judge, told), refusal);
            }
            judge.point(6, 6, 1);
            int[] told = {2, 3, 4, 5};
            told[k] = 8;
            CHECK.holds(name + " is told a new one at " + k, call.answer(judge, told) != refusal);
        }
    }

    private static void firstPlaces() {
        CHECK.sentence("n is 1 and more, up to how many PLACES there are");
        eachN("polygon", 1, BAD, (judge, n) -> judge.polygon(n, 4));
        eachN("winding", 1, -100, (judge, n) -> judge.winding(n, 4));
        eachN("nearest", 1, BAD, (judge, n) -> judge.nearest(4, n));
        eachN("around", 1, BAD, (judge, n) -> judge.around(4, n, 0));
        eachN("order", 1, BAD, (judge, n) -> judge.order(n, 0));
        eachN("convex", 3, BAD, (judge, n) -> judge.convex(n));
        OrderJudge judge = ring();
        for (int n : new int[] {0, -1, LEAST, 4, 24, MOST}) {
            CHECK.is("area of " + n, judge.area(n, 1), 0);
            CHECK.is("area of " + n + ", by 0", judge.area(n, 0), 0);
        }
        for (int n = 1; n <= 3; n++) {
            int told = n;
            CHECK.raises("area of " + n + ", by 0", ArithmeticException.class, () -> judge.area(told, 0));
        }
        CHECK.is("area of all three", judge.area(3, 144), 60);
    }

    private static void eachN(String name, int fewest, long refusal, OfPlaces call) {
        OrderJudge judge = ring();
        for (int n : new int[] {fewest - 1, 0, -1, -24, LEAST, 4, 5, 24, 25, MOST}) {
            CHECK.is(name + " of the first " + n, call.answer(judge, n), refusal);
        }
        for (int n = fewest; n <= 3; n++) {
            CHECK.holds(name + " of the first " + n, call.answer(judge, n) != refusal);
        }
        Judges.row(judge, 0, 2, 5, 6);
        CHECK.holds(name + ", one PLACE more", call.answer(judge, 4) != refusal);
        CHECK.is(name + ", more than these", call.answer(judge, 5), refusal);
    }

    private static void convexOfThree() {
        CHECK.sentence("the first n (3 and more)");
        OrderJudge judge = ring();
        CHECK.is("three", judge.convex(3), 1);
        CHECK.is("two", judge.convex(2), BAD);
        CHECK.is("one", judge.convex(1), BAD);
        judge.of(0, OrderJudge.NONE);
        CHECK.is("three with NONE", judge.convex(3), OrderJudge.NOT);
        CHECK.is("two with NONE", judge.convex(2), BAD);
        Judges.row(judge, 0, 2);
        CHECK.is("three of two", judge.convex(3), BAD);
        CHECK.is("two of two", judge.convex(2), BAD);
    }

    private static void rankAround() {
        CHECK.sentence("around: PLACE i of these. BAD: also i");
        OrderJudge judge = ring();
        CHECK.is("the first of three", judge.around(4, 3, 0), 0);
        CHECK.is("the last of three", judge.around(4, 3, 2), 2);
        for (int i : new int[] {3, 4, 23, 24, MOST, -1, -3, LEAST}) {
            CHECK.is("i = " + i, judge.around(4, 3, i), BAD);
        }
        CHECK.is("the last of two", judge.around(4, 2, 1), 1);
        CHECK.is("a PLACE, but not of the first two", judge.around(4, 2, 2), BAD);
        CHECK.is("the only one of one", judge.around(4, 1, 0), 0);
        CHECK.is("beyond one", judge.around(4, 1, 1), BAD);
    }

    private static void rankInOrder() {
        CHECK.sentence("order: PLACE i of these. BAD: also i");
        OrderJudge judge = ring();
        CHECK.is("the first of three", judge.order(3, 0), 2);
        CHECK.is("the last of three", judge.order(3, 2), 0);
        for (int i : new int[] {3, 4, 23, 24, MOST, -1, -3, LEAST}) {
            CHECK.is("i = " + i, judge.order(3, i), BAD);
        }
        CHECK.is("the last of two", judge.order(2, 1), 0);
        CHECK.is("a PLACE, but not of the first two", judge.order(2, 2), BAD);
        CHECK.is("the only one of one", judge.order(1, 0), 0);
        CHECK.is("beyond one", judge.order(1, 1), BAD);
    }

    private static void firstLines() {
        CHECK.sentence("Of the first n LINES (0 and more)");
        OrderJudge judge = ring();
        for (int many = 0; many < 4; many++) {
            for (int n = 0; n <= many; n++) {
                CHECK.is(n + " of " + many, judge.lines(n, 0), n);
            }
            for (int n : new int[] {many + 1, many + 2, 12, 13, MOST, -1, -2, LEAST}) {
                CHECK.is(n + " of " + many, judge.lines(n, 0), BAD);
                CHECK.is("CELLS of " + n + " of " + many, judge.lines(n, 2), BAD);
            }
            judge.line(many, many + 1);
        }
    }

    private static void whatOfDecided() {
        CHECK.sentence("decided: what = 0, 1, 2. BAD");
        OrderJudge judge = ring();
        judge.side(0, 2, 4);
        judge.side(0, 2, 2);
        judge.side(0, 2, 0);
        CHECK.is("the first what", judge.decided(0), 1);
        CHECK.is("the second what", judge.decided(1), 2);
        CHECK.is("the last what", judge.decided(2), 2);
        for (int what : new int[] {3, 4, MOST, -1, -2, LEAST}) {
            CHECK.is("decided(" + what + ")", judge.decided(what), BAD);
        }
    }

    private static void whatOfLines() {
        CHECK.sentence("lines: what = 0 to 5. BAD");
        OrderJudge judge = ring();
        judge.line(0, 4);
        judge.line(2, 6);
        for (int n = 0; n <= 2; n++) {
            CHECK.is("the first what", judge.lines(n, 0), n);
            CHECK.is("the last what", judge.lines(n, 5), n == 2 ? 2 : 0);
            for (int what : new int[] {6, 7, MOST, -1, -2, LEAST}) {
                CHECK.is("lines(" + n + ", " + what + ")", judge.lines(n, what), BAD);
            }
        }
    }

    private static void whatOfCount() {
        CHECK.sentence("count: 0 POINTS, 1 PLACES, 2 LINES, 3 whether THE FILTER is on. BAD");
        OrderJudge judge = ring();
        judge.line(0, 4);
        judge.line(0, 3);
        CHECK.is("the first what", judge.count(0), 8);
        CHECK.is("PLACES", judge.count(1), 3);
        CHECK.is("LINES", judge.count(2), 2);
        CHECK.is("the last what", judge.count(3), 1);
        for (int what : new int[] {4, 5, MOST, -1, -2, LEAST}) {
            CHECK.is("count(" + what + ")", judge.count(what), BAD);
        }
    }

    private static void areaBy() {
        CHECK.sentence("ArithmeticException: by is 0");
        OrderJudge judge = ring();
        CHECK.raises("by 0", ArithmeticException.class, () -> judge.area(3, 0));
        CHECK.raises("by 0, where the sum is 0", ArithmeticException.class, () -> judge.area(1, 0));
        CHECK.is("by 1", judge.area(3, 1), 60 * 144);
        CHECK.is("by -1", judge.area(3, -1), -60 * 144);
        CHECK.is("by what an int takes for 0", judge.area(3, 1L << 32), 0);
        CHECK.is("by what an int takes for 1", judge.area(3, (1L << 32) + 1), 0);
        CHECK.is("by the most", judge.area(3, Long.MAX_VALUE), 0);
        CHECK.is("by the least", judge.area(3, Long.MIN_VALUE), 0);
    }

    // Seven of the smallest halves there are: the sum is 7 going to the left, -7 going to the right.
    private static void areaTowardsZero() {
        CHECK.sentence("by another number, towards 0");
        OrderJudge judge = Judges.withParts(0, 0, 12, 1, 0, 12, 0, 7, 12);
        long[][] due = {{1, 7}, {2, 3}, {3, 2}, {4, 1}, {6, 1}, {7, 1}, {8, 0}, {100, 0}};
        for (int[] places : new int[][] {{0, 1, 2}, {2, 1, 0}}) {
            int sign = places[0] == 0 ? 1 : -1;
            Judges.row(judge, places);
            for (long[] d : due) {
                CHECK.is(sign * 7 + " by " + d[0], judge.area(3, d[0]), sign * d[1]);
                CHECK.is(sign * 7 + " by " + -d[0], judge.area(3, -d[0]), -sign * d[1]);
            }
        }
    }

    // At the corners of the plane, and a twelfth aside, where an int, a float or a double would not do.
    private static void greatestNumbers() {
        CHECK.sentence("x, y -800 .. 800: exact signs");
        OrderJudge judge = Judges.withParts(-800, -800, 1, 800, 799, 1, 0, -1, 2, 800, 800, 1, 800, -800, 1, -800, 800, 1, 1, 0, 12);
        for (int round = 0; round < 2; round++) {
            CHECK.is("in line, across", judge.side(0, 1, 2), 0);
            CHECK.is("across, a twelfth aside", judge.side(0, 3, 6), -1);
            CHECK.is("the four corners", judge.circle(0, 3, 4, 5), 0);
            CHECK.is("nearly a corner", judge.circle(3, 4, 5, 1), 1);
            CHECK.is("between, across", judge.between(0, 2, 1), 1);
            CHECK.is("the corners are on a circle", judge.separated(0, 3, 4, 5), 1);
            CHECK.is("nearly a corner is not", judge.separated(0, 1, 4, 5), OrderJudge.NOT);
            judge.filter(false);
        }
        Judges.row(judge, 3, 1);
        CHECK.is("the nearer of two, across", judge.nearest(0, 2), 0b10);
        judge.line(0, 3);
        judge.line(4, 5);
        judge.line(0, 1);
        judge.line(6, 3);
        CHECK.is("each two meet at a point of their own", judge.lines(4, 1), 6);
        CHECK.is("two through each", judge.lines(4, 5), 2);
    }

    // All of these are within a twelfth of (0, 0), where each product of two differences is 1, 0 or -1.
    private static void smallestNumbers() {
        CHECK.sentence("X, Y of one are 12 times these: whole numbers (1, 0 and -1)");
        OrderJudge judge = Judges.withParts(0, 0, 1, 1, 0, 12, 0, 1, 12, -1, 0, 12, 0, -1, 12, 1, 1, 12, 1, 0, 12);
        CHECK.is("in the direction of b", judge.inside(0, 1, 2, 6), 2);
        CHECK.is("in the direction of c", judge.inside(0, 2, 1, 6), 2);
        CHECK.is("within", judge.inside(0, 1, 2, 5), 1);
        CHECK.is("opposite to b", judge.inside(0, 1, 2, 3), 0);
        CHECK.is("between", judge.between(1, 0, 3), 1);
        CHECK.is("beyond", judge.between(0, 1, 3), 0);
        CHECK.is("beside two EQUAL ones", judge.between(1, 0, 6), 0);
        CHECK.is("ways that cross", judge.cross(1, 3, 2, 4), 1);
        CHECK.is("ways end to end", judge.cross(3, 0, 0, 1), 2);
        CHECK.is("a way of EQUAL ones beside", judge.cross(1, 6, 0, 0), 0);
        CHECK.is("left", judge.side(0, 1, 5), 1);
        CHECK.is("in line", judge.side(3, 1, 0), 0);
        CHECK.is("within a circle", judge.circle(1, 2, 3, 0), 1);
        CHECK.is("on a circle", judge.circle(1, 2, 3, 4), 0);
        Judges.row(judge, 1, 2, 3, 4);
        CHECK.is("one PLACE, beside it", judge.polygon(1, 0), 0);
        CHECK.is("one PLACE, at it", judge.polygon(1, 6), 2);
        CHECK.is("two PLACES, beside them", judge.winding(2, 0), 0);
        CHECK.is("three PLACES, on an EDGE", judge.winding(3, 0), 100);
        CHECK.is("four PLACES, within", judge.winding(4, 0), 1);
        CHECK.is("convex", judge.convex(4), 1);
        CHECK.is("area", judge.area(4, 1), 4);
        CHECK.is("all as near", judge.nearest(0, 4), 0b1111);
    }
}
