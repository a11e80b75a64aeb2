/** Promises 1 to 5 and 23: a new object, points, the row, counts. */
public final class PointsAndRowTest {
    private static final Check CHECK = new Check("PointsAndRowTest");

    public static void main(String[] args) {
        newObject();
        pointNumbersAndLimits();
        pointScales();
        pointFull();
        sizes();
        places();
        looks();
        counts();
        CHECK.end();
    }

    private static void newObject() {
        OrderJudge judge = new OrderJudge();
        CHECK.is("new: POINTS", judge.count(0), 0);
        CHECK.is("new: PLACES", judge.count(1), 0);
        CHECK.is("new: LINES", judge.count(2), 0);
        CHECK.is("new: THE FILTER", judge.count(3), 1);
        for (int what = 0; what < 3; what++) {
            CHECK.is("new: decided", judge.decided(what), 0);
        }
        CHECK.is("new: the other object's POINTS are its own", Judges.with(1, 1).count(0) + judge.count(0), 1);
    }

    private static void pointNumbersAndLimits() {
        OrderJudge judge = new OrderJudge();
        long[][] bad = {
            {801, 0, 1}, {-801, 0, 1}, {0, 801, 1}, {0, -801, 1}, {801, 0, 12},
            {0, 0, 0}, {0, 0, -1}, {0, 0, -12}, {0, 0, 5}, {0, 0, 7}, {0, 0, 8}, {0, 0, 9}, {0, 0, 10},
            {0, 0, 11}, {0, 0, 13}, {0, 0, 24}, {0, 0, (1L << 32) + 1}, {1L << 32, 0, 1}, {0, 1L << 32, 1},
            {Long.MIN_VALUE, 0, 1}, {0, Long.MAX_VALUE, 1}, {0, 0, Long.MIN_VALUE}, {0, 0, Long.MAX_VALUE},
        };
        for (long[] b : bad) {
            CHECK.is("point of " + b[0] + ", " + b[1] + ", " + b[2], judge.point(b[0], b[1], b[2]), OrderJudge.BAD);
        }
        CHECK.is("a refused POINT is none", judge.count(0), 0);
        CHECK.is("first", judge.point(800, -800, 1), 0);
        CHECK.is("second, EQUAL to the first", judge.point(800, -800, 1), 1);
        CHECK.is("third", judge.point(-800, 800, 12), 2);
    }

    private static void pointScales() {
        OrderJudge judge = new OrderJudge();
        int[] downs = {1, 2, 3, 4, 6, 12};
        judge.size(1);
        for (int down : downs) {
            int p = judge.point(-7, 800, down);
            judge.of(0, p);
            CHECK.is("X with down " + down, judge.at(0, 0), -84 / down);
            CHECK.is("Y with down " + down, judge.at(0, 1), 9600 / down);
        }
        int half = judge.point(1, 3, 2);
        int sixths = judge.point(3, 9, 6);
        CHECK.is("1/2 and 3/6 are EQUAL", judge.between(half, sixths, 0), 2);
    }

    private static void pointFull() {
        OrderJudge judge = new OrderJudge();
        for (int i = 0; i < 60; i++) {
            CHECK.is("point " + i, judge.point(i, -i, 1), i);
        }
        CHECK.is("the 61st", judge.point(0, 0, 1), OrderJudge.FULL);
        CHECK.is("BAD is told before FULL", judge.point(0, 0, 5), OrderJudge.BAD);
        CHECK.is("still 60", judge.count(0), 60);
        CHECK.is("the last one is there", judge.between(59, 59, 0), 2);
        CHECK.is("there is no 60th number", judge.between(60, 59, 0), OrderJudge.BAD);
    }

    private static void sizes() {
        OrderJudge judge = Judges.with(1, 2);
        CHECK.is("first size", judge.size(24), 0);
        judge.of(23, 0);
        CHECK.is("too large", judge.size(25), OrderJudge.BAD);
        CHECK.is("far too large", judge.size(Integer.MAX_VALUE), OrderJudge.BAD);
        CHECK.raises("size(-1)", NegativeArraySizeException.class, () -> judge.size(-1));
        CHECK.raises("size(least)", NegativeArraySizeException.class, () -> judge.size(Integer.MIN_VALUE));
        CHECK.is("refused sizes change nothing", judge.at(23, 2), 0);
        CHECK.is("24 stand", judge.count(1), 24);
        CHECK.is("shrunk", judge.size(2), 24);
        CHECK.raises("beyond what was shrunk", ArrayIndexOutOfBoundsException.class, () -> judge.at(23, 2));
        CHECK.is("grown again", judge.size(24), 2);
        CHECK.raises("all have NONE", NullPointerException.class, () -> judge.at(23, 2));
        judge.of(0, 0);
        CHECK.is("the same size", judge.size(24), 24);
        CHECK.raises("NONE again", NullPointerException.class, () -> judge.at(0, 0));
        CHECK.is("to none", judge.size(0), 24);
        CHECK.is("none", judge.count(1), 0);
        CHECK.is("from none", judge.size(0), 0);
    }

    private static void places() {
        OrderJudge judge = Judges.with(1, 2, 3, 4);
        CHECK.raises("of a ROW without PLACES", ArrayIndexOutOfBoundsException.class, () -> judge.of(0, 0));
        judge.size(2);
        CHECK.is("it had NONE", judge.of(0, 1), OrderJudge.NONE);
        CHECK.is("it had 1", judge.of(0, 0), 1);
        CHECK.is("no such POINT", judge.of(0, 2), OrderJudge.BAD);
        CHECK.is("no such POINT, below NONE", judge.of(0, -2), OrderJudge.BAD);
        CHECK.is("BAD is told before the PLACE", judge.of(2, 2), OrderJudge.BAD);
        CHECK.is("BAD is told before the PLACE below", judge.of(-1, -2), OrderJudge.BAD);
        CHECK.raises("of(2, 0)", ArrayIndexOutOfBoundsException.class, () -> judge.of(2, 0));
        CHECK.raises("of(-1, 0)", ArrayIndexOutOfBoundsException.class, () -> judge.of(-1, 0));
        CHECK.raises("of(2, NONE)", ArrayIndexOutOfBoundsException.class, () -> judge.of(2, OrderJudge.NONE));
        CHECK.raises("of(greatest, 0)", ArrayIndexOutOfBoundsException.class, () -> judge.of(Integer.MAX_VALUE, 0));
        CHECK.is("refused ones change nothing, NONE is taken", judge.of(0, OrderJudge.NONE), 0);
        CHECK.is("it had NONE again", judge.of(0, 0), OrderJudge.NONE);
        CHECK.is("one POINT at two PLACES", judge.of(1, 0), OrderJudge.NONE);
    }

    private static void looks() {
        OrderJudge judge = Judges.with(5, 5, -3, 7);
        judge.size(2);
        judge.of(1, 1);
        CHECK.is("X", judge.at(1, 0), -36);
        CHECK.is("Y", judge.at(1, 1), 84);
        for (int what : new int[] {2, 3, -1, Integer.MIN_VALUE, Integer.MAX_VALUE}) {
            CHECK.is("its number, what = " + what, judge.at(1, what), 1);
        }
        CHECK.raises("at a PLACE with NONE", NullPointerException.class, () -> judge.at(0, 0));
        CHECK.raises("at(2, 0)", ArrayIndexOutOfBoundsException.class, () -> judge.at(2, 0));
        CHECK.raises("at(-1, 0)", ArrayIndexOutOfBoundsException.class, () -> judge.at(-1, 0));
        CHECK.raises("at(least, 9)", ArrayIndexOutOfBoundsException.class, () -> judge.at(Integer.MIN_VALUE, 9));
    }

    private static void counts() {
        OrderJudge judge = Judges.with(0, 0, 1, 0, 2, 0);
        judge.size(5);
        judge.line(0, 1);
        judge.line(0, 2);
        CHECK.is("POINTS", judge.count(0), 3);
        CHECK.is("PLACES", judge.count(1), 5);
        CHECK.is("LINES", judge.count(2), 2);
        CHECK.is("on", judge.count(3), 1);
        judge.filter(false);
        CHECK.is("off", judge.count(3), 0);
        for (int what : new int[] {4, -1, Integer.MIN_VALUE, Integer.MAX_VALUE}) {
            CHECK.is("count(" + what + ")", judge.count(what), OrderJudge.BAD);
        }
    }
}
