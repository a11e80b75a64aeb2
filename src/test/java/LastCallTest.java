/** The 512th call: each kind of call, made as the last one that an object is used for, answers as the first would. */
public final class LastCallTest {
    private static final Check CHECK = new Check("LastCallTest");
    private static final int NONE = OrderJudge.NONE, BAD = OrderJudge.BAD, FULL = OrderJudge.FULL, NOT = OrderJudge.NOT;
    private static final int LAST = 512;
    private static final int BUILT = 14;
    private static final int KINDS = 11;

    private final OrderJudge judge = new OrderJudge();
    private int calls;
    private int clears, unclears, zeros;

    private LastCallTest() {
    }

    public static void main(String[] args) {
        CHECK.sentence("An object is used for at most 512 calls after it has been made");
        changes();
        looks();
        signs();
        counts();
        few();
        rowOrders();
        lines();
        refusals();
        exceptions();
        CHECK.sentence("An object is used for at most 512 calls (of one kind)");
        onlySides();
        onlyPoints();
        onlySizes();
        onlyLines();
        CHECK.end();
    }

    // An object that all calls but the last have been made on.
    private static OrderJudge used() {
        return usedTest().judge;
    }

    private static LastCallTest usedTest() {
        LastCallTest test = new LastCallTest();
        test.build();
        while (test.calls < LAST - 1) {
            test.idle((test.calls - BUILT) % KINDS);
            test.calls++;
        }
        return test;
    }

    private void build() {
        long[][] points = {{0, 0}, {10, 0}, {10, 10}, {0, 10}, {5, 5}, {5, 0}};
        for (long[] p : points) {
            judge.point(p[0], p[1], 1);
        }
        Judges.row(judge, 0, 1, 2, 3);
        judge.line(0, 1);
        judge.line(1, 2);
        judge.line(0, 2);
        calls = BUILT;
    }

    // What these change, they change back, but for what decided() counts; call 511 is of kind 1, so all is back then.
    private void idle(int kind) {
        switch (kind) {
            case 0: CHECK.is("side on the way", judge.side(0, 1, 2), 1); clears++; break;
            case 1: CHECK.is("circle on the way", judge.circle(0, 1, 2, 3), 0); unclears++; zeros++; break;
            case 2: CHECK.is("size on the way", judge.size(25), BAD); break;
            case 3: CHECK.is("of on the way", judge.of(2, 4), 2); break;
            case 4: CHECK.is("of back", judge.of(2, 2), 4); break;
            case 5: CHECK.raises("at on the way", ArrayIndexOutOfBoundsException.class, () -> judge.at(4, 0)); break;
            case 6: CHECK.is("filter on the way", judge.filter(false), 1); break;
            case 7: CHECK.is("side, the filter being off", judge.side(1, 0, 2), -1); unclears++; break;
            case 8: CHECK.is("filter back", judge.filter(true), 0); break;
            case 9: CHECK.is("line on the way", judge.line(0, 0), NOT); break;
            default: CHECK.is("point on the way", judge.point(1, 1, 5), BAD); break;
        }
    }

    private static void changes() {
        CHECK.is("point", used().point(7, 7, 6), 6);
        CHECK.is("size", used().size(3), 4);
        CHECK.is("of", used().of(3, 4), 3);
        CHECK.is("of NONE", used().of(3, NONE), 3);
        CHECK.is("filter", used().filter(false), 1);
        CHECK.is("line", used().line(3, 1), 3);
    }

    private static void looks() {
        CHECK.is("at: X", used().at(2, 0), 120);
        CHECK.is("at: Y", used().at(2, 1), 120);
        CHECK.is("at: its number", used().at(2, 2), 2);
        CHECK.is("count of POINTS", used().count(0), 6);
        CHECK.is("count of PLACES", used().count(1), 4);
        CHECK.is("count of LINES", used().count(2), 3);
        CHECK.is("THE FILTER is on", used().count(3), 1);
    }

    private static void signs() {
        CHECK.is("side: left", used().side(0, 1, 4), 1);
        CHECK.is("side: right", used().side(1, 0, 4), -1);
        CHECK.is("side: in line", used().side(0, 1, 5), 0);
        CHECK.is("circle: within", used().circle(0, 1, 2, 4), 1);
        CHECK.is("circle: on it", used().circle(0, 1, 2, 3), 0);
        CHECK.is("circle: outside", used().circle(0, 5, 4, 2), -1);
    }

    private static void counts() {
        LastCallTest test = usedTest();
        CHECK.is("decided", test.judge.decided(0), test.clears);
        test = usedTest();
        CHECK.is("not decided", test.judge.decided(1), test.unclears);
        test = usedTest();
        CHECK.is("told 0", test.judge.decided(2), test.zeros);
        CHECK.holds("all of these were counted", test.clears > 40 && test.unclears > 80 && test.zeros > 40);
    }

    private static void few() {
        CHECK.is("between", used().between(0, 5, 1), 1);
        CHECK.is("between, an end", used().between(0, 1, 1), 2);
        CHECK.is("inside", used().inside(0, 1, 3, 4), 1);
        CHECK.is("inside, in a direction", used().inside(0, 1, 3, 5), 2);
        CHECK.is("cross", used().cross(0, 2, 1, 3), 1);
        CHECK.is("cross, at an end", used().cross(0, 1, 5, 4), 2);
        CHECK.is("separated", used().separated(0, 2, 1, 3), 1);
        CHECK.is("not separated", used().separated(0, 1, 2, 3), 0);
    }

    private static void rowOrders() {
        CHECK.is("convex", used().convex(4), 1);
        CHECK.is("polygon", used().polygon(4, 4), 1);
        CHECK.is("polygon, on an EDGE", used().polygon(4, 5), 2);
        CHECK.is("winding", used().winding(4, 4), 1);
        CHECK.is("winding, on an EDGE", used().winding(4, 5), 100);
        CHECK.is("nearest", used().nearest(5, 4), 3);
        CHECK.is("around", used().around(4, 4, 0), 2);
        CHECK.is("around, the last", used().around(4, 4, 3), 1);
        CHECK.is("order", used().order(4, 1), 3);
        CHECK.is("area", used().area(4, 1), 28800);
        CHECK.is("area by another number", used().area(4, -7), -4114);
    }

    private static void lines() {
        int[] due = {3, 3, 7, 9, 1, 2};
        for (int what = 0; what < due.length; what++) {
            CHECK.is("lines, what = " + what, used().lines(3, what), due[what]);
        }
    }

    private static void refusals() {
        CHECK.is("point", used().point(801, 0, 1), BAD);
        CHECK.is("size", used().size(25), BAD);
        CHECK.is("of", used().of(0, 6), BAD);
        CHECK.is("side", used().side(0, 0, 1), NOT);
        CHECK.is("circle", used().circle(0, 5, 1, 2), NOT);
        CHECK.is("decided", used().decided(3), BAD);
        CHECK.is("between", used().between(0, 6, 1), BAD);
        CHECK.is("inside", used().inside(0, 0, 1, 2), NOT);
        CHECK.is("cross", used().cross(0, 1, 2, -1), BAD);
        CHECK.is("separated", used().separated(0, 1, 2, 4), NOT);
        CHECK.is("convex", used().convex(2), BAD);
        CHECK.is("polygon", used().polygon(5, 0), BAD);
        CHECK.is("winding", used().winding(5, 0), -100);
        CHECK.is("nearest", used().nearest(6, 4), BAD);
        CHECK.is("around", used().around(4, 4, 4), BAD);
        CHECK.is("order", used().order(4, -1), BAD);
        CHECK.is("area", used().area(5, 0), 0);
        CHECK.is("line", used().line(2, 2), NOT);
        CHECK.is("lines", used().lines(4, 0), BAD);
        CHECK.is("count", used().count(4), BAD);
    }

    private static void exceptions() {
        CHECK.raises("size", NegativeArraySizeException.class, () -> used().size(-1));
        CHECK.raises("of", ArrayIndexOutOfBoundsException.class, () -> used().of(4, 0));
        CHECK.raises("at", ArrayIndexOutOfBoundsException.class, () -> used().at(-1, 0));
        CHECK.raises("area", ArithmeticException.class, () -> used().area(4, 0));
        OrderJudge judge = new OrderJudge();
        CHECK.is("the first of 512", judge.size(24), 0);
        for (int call = 2; call <= LAST; call++) {
            int place = call % 24;
            CHECK.raises("call " + call, NullPointerException.class, () -> judge.at(place, 2));
        }
    }

    private static void onlySides() {
        OrderJudge judge = Judges.with(0, 0, 4, 0, 0, 4, 8, 0);
        for (int call = 5; call <= LAST - 2; call++) {
            CHECK.is("call " + call, judge.side(0, 1, call % 2 == 0 ? 2 : 3), call % 2 == 0 ? 1 : 0);
        }
        CHECK.is("call 511", judge.decided(0), 253);
        CHECK.is("call 512", judge.decided(2), 253);
    }

    private static void onlyPoints() {
        OrderJudge judge = new OrderJudge();
        for (int call = 1; call <= LAST; call++) {
            CHECK.is("call " + call, judge.point(call, -call, 12), call <= 60 ? call - 1 : FULL);
        }
    }

    private static void onlySizes() {
        OrderJudge judge = new OrderJudge();
        for (int call = 1; call <= LAST; call++) {
            CHECK.is("call " + call, judge.size(call % 25), (call - 1) % 25);
        }
    }

    private static void onlyLines() {
        OrderJudge judge = Judges.with(0, 0, 1, 0);
        for (int call = 3; call <= LAST; call++) {
            CHECK.is("call " + call, judge.line(call % 2, 1 - call % 2), call <= 14 ? call - 3 : FULL);
        }
    }
}
