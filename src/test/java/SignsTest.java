/** Promises 6 to 9: side, circle, filter, decided. */
public final class SignsTest {
    private static final Check CHECK = new Check("SignsTest");

    public static void main(String[] args) {
        sides();
        circles();
        filterSwitch();
        decidedCounts();
        decidedByPointsTold();
        nearlyInLine();
        nearlyOnCircle();
        edgeOfDoubtOfSide();
        edgeOfDoubtOfCircle();
        CHECK.end();
    }

    private static void sides() {
        OrderJudge judge = Judges.with(0, 0, 10, 0, 3, 1, 3, -1, 20, 0, 0, 0);
        CHECK.is("left", judge.side(0, 1, 2), 1);
        CHECK.is("right", judge.side(0, 1, 3), -1);
        CHECK.is("in line", judge.side(0, 1, 4), 0);
        CHECK.is("c EQUAL to a", judge.side(0, 1, 5), 0);
        CHECK.is("c is b", judge.side(0, 1, 1), 0);
        CHECK.is("a is b", judge.side(0, 0, 1), OrderJudge.NOT);
        CHECK.is("a EQUAL to b", judge.side(0, 5, 1), OrderJudge.NOT);
        int[][] bad = {{6, 0, 1}, {0, 6, 1}, {0, 1, 6}, {-1, 0, 1}, {0, -1, 1}, {0, 1, -1}, {0, 0, 6}, {Integer.MIN_VALUE, 0, 1}};
        for (int[] b : bad) {
            CHECK.is("side of no such POINT", judge.side(b[0], b[1], b[2]), OrderJudge.BAD);
        }
        CHECK.is("refused ones are not counted", judge.decided(0) + judge.decided(1), 5);
    }

    private static void circles() {
        OrderJudge judge = Judges.with(5, 0, 0, 5, -5, 0, 3, 4, 3, 3, 4, 4, 10, 0);
        CHECK.is("on", judge.circle(0, 1, 2, 3), 0);
        CHECK.is("within", judge.circle(0, 1, 2, 4), 1);
        CHECK.is("outside", judge.circle(0, 1, 2, 5), -1);
        CHECK.is("within, gone round to the right", judge.circle(2, 1, 0, 4), 1);
        CHECK.is("outside, gone round to the right", judge.circle(2, 1, 0, 5), -1);
        CHECK.is("d is a", judge.circle(0, 1, 2, 0), 0);
        CHECK.is("d is c", judge.circle(0, 1, 2, 2), 0);
        CHECK.is("in line", judge.circle(0, 2, 6, 1), OrderJudge.NOT);
        CHECK.is("b is c", judge.circle(0, 1, 1, 2), OrderJudge.NOT);
        CHECK.is("a is c", judge.circle(1, 0, 1, 2), OrderJudge.NOT);
        CHECK.is("BAD is told before NOT", judge.circle(0, 0, 0, 7), OrderJudge.BAD);
        int[][] bad = {{7, 1, 2, 3}, {0, 7, 2, 3}, {0, 1, 7, 3}, {0, 1, 2, 7}, {-1, 1, 2, 3}, {0, -1, 2, 3}, {0, 1, -1, 3}, {0, 1, 2, -1}};
        for (int[] b : bad) {
            CHECK.is("circle of no such POINT", judge.circle(b[0], b[1], b[2], b[3]), OrderJudge.BAD);
        }
        CHECK.is("refused ones are not counted", judge.decided(0) + judge.decided(1), 7);
        CHECK.is("three told 0", judge.decided(2), 3);
    }

    private static void filterSwitch() {
        OrderJudge judge = new OrderJudge();
        CHECK.is("on at first", judge.filter(true), 1);
        CHECK.is("was on", judge.filter(false), 1);
        CHECK.is("was off", judge.filter(false), 0);
        CHECK.is("was off still", judge.filter(true), 0);
        CHECK.is("was on again", judge.filter(true), 1);
    }

    private static void decidedCounts() {
        OrderJudge judge = Judges.with(0, 0, 10, 0, 0, 10, 20, 0, 10, 10, 1, 1);
        judge.side(0, 1, 2);
        judge.circle(0, 1, 2, 5);
        judge.side(0, 1, 3);
        judge.circle(0, 1, 2, 4);
        expectDecided("on", judge, 2, 2, 2);
        judge.filter(false);
        judge.side(0, 1, 2);
        judge.side(0, 1, 3);
        judge.circle(0, 1, 2, 5);
        expectDecided("none is decided while it is off", judge, 2, 5, 3);
        judge.filter(true);
        judge.side(0, 2, 1);
        expectDecided("on again", judge, 3, 5, 3);
        judge.between(0, 1, 3);
        judge.inside(0, 1, 2, 5);
        judge.cross(0, 1, 2, 3);
        judge.separated(0, 1, 2, 4);
        Judges.row(judge, 0, 1, 2);
        judge.convex(3);
        judge.polygon(3, 5);
        judge.around(5, 3, 0);
        expectDecided("other calls are not counted", judge, 3, 5, 3);
        for (int what : new int[] {3, -1, Integer.MAX_VALUE, Integer.MIN_VALUE}) {
            CHECK.is("decided(" + what + ")", judge.decided(what), OrderJudge.BAD);
        }
    }

    // SIZE is that of the POINTS told in the call: others, however far away, leave clear what is clear.
    private static void decidedByPointsTold() {
        OrderJudge judge = Judges.with(800, 800, 0, 0, 4, 0, 0, 4, 1, 1, -800, 5);
        CHECK.is("near ones", judge.side(1, 2, 3), 1);
        CHECK.is("a near circle", judge.circle(1, 2, 3, 4), 1);
        expectDecided("near, with others far away", judge, 2, 0, 0);
        judge.point(1, 1, 12);
        judge.point(-1, 0, 12);
        judge.point(0, -1, 12);
        CHECK.is("the smallest of all", judge.side(1, 7, 8), 1);
        CHECK.is("a smallest circle", judge.circle(1, 7, 8, 6), -1);
        expectDecided("what is small is clear among the small", judge, 4, 0, 0);
        Judges.row(judge, 0, 5);
        judge.line(0, 5);
        judge.side(2, 1, 3);
        expectDecided("THE ROW and LINES have no part in it", judge, 5, 0, 0);
        OrderJudge far = Judges.with(800, 800, 799, 800, 800, 799, 799, 799, 798, 799);
        CHECK.is("far ones", far.side(0, 1, 2), 1);
        CHECK.is("a far circle", far.circle(0, 1, 2, 4), -1);
        expectDecided("the same ways, told far away, are doubtful", far, 0, 2, 0);
    }

    // TURN is 1/6 here, and the doubt 800 * 800 / 2 to the 18, some 2.4.
    private static void nearlyInLine() {
        OrderJudge judge = Judges.with(-800, -799, 800, 799);
        judge.point(1, 1, 12);
        CHECK.is("a hair to the left", judge.side(0, 1, 2), 1);
        CHECK.is("a hair to the right", judge.side(1, 0, 2), -1);
        expectDecided("a hair is not clear", judge, 0, 2, 0);
        judge.point(799, 798, 1);
        CHECK.is("next to the end", judge.side(0, 1, 3), -1);
        expectDecided("a TURN of 2 is not clear", judge, 0, 3, 0);
        judge.point(799, 797, 1);
        CHECK.is("two from the end", judge.side(0, 1, 4), -1);
        expectDecided("a TURN of 1602 is", judge, 1, 3, 0);
    }

    // Whole POINTS on the circle with the radius 625, and their neighbours.
    private static void nearlyOnCircle() {
        OrderJudge judge = Judges.with(625, 0, 0, 625, -625, 0, 375, 500, 376, 499, 175, 600, 175, 601);
        CHECK.is("on the circle", judge.circle(0, 1, 2, 3), 0);
        CHECK.is("on the circle too", judge.circle(2, 1, 0, 5), 0);
        expectDecided("0 is never decided", judge, 0, 2, 2);
        CHECK.is("just within", judge.circle(0, 1, 2, 4), 1);
        CHECK.is("just outside", judge.circle(2, 1, 0, 6), -1);
        CHECK.is("two told 0", judge.decided(2), 2);
    }

    // With SIZE 512 the doubt of TURN is 1, and what is just 1 is not more than it. Each corner in turn is the only
    // one that has SIZE, to either side, in X or in Y.
    private static void edgeOfDoubtOfSide() {
        long[][] ways = {{1, 0}, {-1, 0}, {0, 1}, {0, -1}};
        for (long[] way : ways) {
            long x = way[0], y = way[1];
            OrderJudge judge = Judges.with(512 * x, 512 * y, 511 * x, 511 * y, 511 * x - y, 511 * y + x,
                510 * x, 510 * y, 510 * x - y, 510 * y + x, 0, 0, 800, -800);
            for (int[] told : new int[][] {{0, 1, 2}, {1, 2, 0}, {2, 0, 1}}) {
                CHECK.is("TURN of -1", judge.side(told[0], told[1], told[2]), -1);
                CHECK.is("TURN of 1", judge.side(told[1], told[0], told[2]), 1);
            }
            expectDecided("of just the doubt", judge, 0, 6, 0);
            for (int[] told : new int[][] {{1, 3, 4}, {3, 4, 1}, {4, 1, 3}}) {
                CHECK.is("TURN of -1, less far", judge.side(told[0], told[1], told[2]), -1);
                CHECK.is("TURN of 1, less far", judge.side(told[1], told[0], told[2]), 1);
            }
            expectDecided("more than the doubt of 511", judge, 6, 6, 0);
            CHECK.is("TURN of -2", judge.side(0, 3, 2), -1);
            expectDecided("twice the doubt", judge, 7, 6, 0);
        }
    }

    // With SIZE 16 the doubt of RING is 16, as is RING of these four but for the sign, wherever they are moved.
    private static void edgeOfDoubtOfCircle() {
        long[][] moves = {{14, 0}, {-14, 0}, {0, 15}, {0, -16}, {14, 15}};
        for (long[] move : moves) {
            long x = move[0], y = move[1];
            expectRing("of just the doubt", 0, x, y);
            expectRing("more than the doubt, nearer", 6, x - Long.signum(x), y - Long.signum(y));
        }
        OrderJudge hair = new OrderJudge();
        for (long[] twelfths : new long[][] {{167, 0}, {191, 0}, {167, 12}, {143, 0}}) {
            hair.point(twelfths[0], twelfths[1], 12);
        }
        CHECK.is("a twelfth nearer", hair.circle(0, 1, 2, 3), -1);
        expectDecided("a hair more than the doubt", hair, 1, 0, 0);
        OrderJudge within = Judges.with(2, 0, 0, 2, -2, 0, 1, 1, 16, 0);
        CHECK.is("RING of 16, within", within.circle(0, 1, 2, 3), 1);
        expectDecided("RING of 16 is more than the doubt of 2", within, 1, 0, 0);
    }

    private static void expectRing(String what, int clear, long x, long y) {
        OrderJudge judge = Judges.with(x, y, x + 2, y, x, y + 1, x - 2, y, 800, 800, 0, 0);
        int[][] rounds = {{0, 1, 2}, {1, 2, 0}, {2, 0, 1}, {2, 1, 0}, {1, 0, 2}, {0, 2, 1}};
        for (int[] told : rounds) {
            CHECK.is(what + ", outside", judge.circle(told[0], told[1], told[2], 3), -1);
        }
        expectDecided(what + ", moved by " + x + ", " + y, judge, clear, 6 - clear, 0);
    }

    private static void expectDecided(String what, OrderJudge judge, int clear, int unclear, int zero) {
        CHECK.is(what + ": decided", judge.decided(0), clear);
        CHECK.is(what + ": not decided", judge.decided(1), unclear);
        CHECK.is(what + ": told 0", judge.decided(2), zero);
    }
}
