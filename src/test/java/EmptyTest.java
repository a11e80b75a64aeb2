/** Empty: a new object, a ROW without PLACES, PLACES that have NONE, no LINE, no MEET. */
public final class EmptyTest {
    private static final Check CHECK = new Check("EmptyTest");
    private static final int NONE = OrderJudge.NONE, BAD = OrderJudge.BAD, NOT = OrderJudge.NOT;

    public static void main(String[] args) {
        noPoints();
        noPlaces();
        noLines();
        filterIsOn();
        nothingCounted();
        emptiedRow();
        allWithNone();
        hadNone();
        noneAgain();
        lookAtNone();
        oneHasNone();
        noneBehindTheFirst();
        noMeet();
        noLineOfSome();
        CHECK.end();
    }

    private static void noPoints() {
        CHECK.sentence("A new object: No POINTS");
        OrderJudge judge = new OrderJudge();
        CHECK.is("count", judge.count(0), 0);
        CHECK.is("side", judge.side(0, 0, 0), BAD);
        CHECK.is("circle", judge.circle(0, 0, 0, 0), BAD);
        CHECK.is("between", judge.between(0, 0, 0), BAD);
        CHECK.is("inside", judge.inside(0, 0, 0, 0), BAD);
        CHECK.is("cross", judge.cross(0, 0, 0, 0), BAD);
        CHECK.is("separated", judge.separated(0, 0, 0, 0), BAD);
        CHECK.is("line", judge.line(0, 0), BAD);
        judge.size(1);
        CHECK.is("a PLACE gets the first POINT", judge.of(0, 0), BAD);
        CHECK.is("a PLACE gets NONE", judge.of(0, NONE), NONE);
        CHECK.is("the first POINT is 0", judge.point(0, 0, 1), 0);
        CHECK.is("now there is one", judge.of(0, 0), NONE);
    }

    private static void noPlaces() {
        CHECK.sentence("A new object: no PLACES");
        expectNoPlaces(new OrderJudge());
        CHECK.sentence("THE ROW has up to 24 PLACES (none at first)");
        expectNoPlaces(Judges.with(3, 4));
        CHECK.is("how many it had", new OrderJudge().size(0), 0);
        CHECK.is("how many it had", new OrderJudge().size(24), 0);
    }

    private static void expectNoPlaces(OrderJudge judge) {
        CHECK.is("count", judge.count(1), 0);
        CHECK.raises("of(0, NONE)", ArrayIndexOutOfBoundsException.class, () -> judge.of(0, NONE));
        CHECK.raises("of(-1, NONE)", ArrayIndexOutOfBoundsException.class, () -> judge.of(-1, NONE));
        for (int what = 0; what < 3; what++) {
            int told = what;
            CHECK.raises("at(0, " + what + ")", ArrayIndexOutOfBoundsException.class, () -> judge.at(0, told));
        }
        for (int n : new int[] {-1, 0, 1, 3, 24}) {
            CHECK.is("convex of " + n, judge.convex(n), BAD);
            CHECK.is("polygon of " + n, judge.polygon(n, 0), BAD);
            CHECK.is("winding of " + n, judge.winding(n, 0), -100);
            CHECK.is("nearest of " + n, judge.nearest(0, n), BAD);
            CHECK.is("around of " + n, judge.around(0, n, 0), BAD);
            CHECK.is("order of " + n, judge.order(n, 0), BAD);
            CHECK.is("area of " + n, judge.area(n, 1), 0);
            CHECK.is("area of " + n + ", by 0", judge.area(n, 0), 0);
        }
    }

    private static void noLines() {
        CHECK.sentence("A new object: no LINES");
        OrderJudge judge = new OrderJudge();
        CHECK.is("count", judge.count(2), 0);
        expectLines("no LINE at all", judge, 0, 0, 0, 1, 0, 0, 0);
        for (int what = 0; what < 6; what++) {
            CHECK.is("one of none, what = " + what, judge.lines(1, what), BAD);
            CHECK.is("less than none, what = " + what, judge.lines(-1, what), BAD);
        }
        judge.point(0, 0, 1);
        judge.point(1, 0, 1);
        CHECK.is("POINTS are no LINES", judge.count(2), 0);
        CHECK.is("the first LINE is 0", judge.line(0, 1), 0);
    }

    private static void filterIsOn() {
        CHECK.sentence("A new object: THE FILTER is on");
        CHECK.is("count", new OrderJudge().count(3), 1);
        CHECK.is("it was on, as it goes off", new OrderJudge().filter(false), 1);
        CHECK.is("it was on, as it goes on", new OrderJudge().filter(true), 1);
        OrderJudge judge = Judges.with(0, 0, 1, 0, 0, 1);
        judge.side(0, 1, 2);
        CHECK.is("it DECIDES", judge.decided(0), 1);
    }

    private static void nothingCounted() {
        CHECK.sentence("A new object: no side() and circle() yet");
        for (int what = 0; what < 3; what++) {
            CHECK.is("decided(" + what + ")", new OrderJudge().decided(what), 0);
        }
    }

    private static void emptiedRow() {
        CHECK.sentence("THE ROW has n PLACES: how many it had");
        OrderJudge judge = Judges.with(3, 4);
        Judges.row(judge, 0, 0, 0);
        CHECK.is("to none", judge.size(0), 3);
        expectNoPlaces(judge);
        CHECK.is("from none to none", judge.size(0), 0);
        CHECK.is("from none to one", judge.size(1), 0);
        CHECK.is("from one", judge.size(2), 1);
    }

    private static void allWithNone() {
        CHECK.sentence("THE ROW has n PLACES, all with NONE");
        for (int n : new int[] {1, 3, 4, 24}) {
            OrderJudge judge = Judges.with(3, 4);
            Judges.row(judge, 0, 0, 0);
            judge.size(n);
            for (int i = 0; i < n; i++) {
                int place = i;
                CHECK.raises("PLACE " + i + " of " + n, NullPointerException.class, () -> judge.at(place, 0));
                CHECK.is("what PLACE " + i + " of " + n + " had", judge.of(i, 0), NONE);
            }
            CHECK.raises("PLACE " + n + " of " + n, ArrayIndexOutOfBoundsException.class, () -> judge.at(n, 0));
        }
        OrderJudge judge = Judges.with(3, 4);
        Judges.row(judge, 0, 0, 0);
        judge.size(1);
        judge.size(3);
        CHECK.raises("shrunk and grown", NullPointerException.class, () -> judge.at(2, 0));
    }

    private static void hadNone() {
        CHECK.sentence("PLACE i gets a POINT, or NONE: which it had (NONE)");
        OrderJudge judge = Judges.with(3, 4, 5, 6);
        judge.size(2);
        CHECK.is("NONE to NONE", judge.of(0, NONE), NONE);
        CHECK.is("NONE to 1", judge.of(0, 1), NONE);
        CHECK.is("1 to 1", judge.of(0, 1), 1);
        CHECK.is("1 to 0", judge.of(0, 0), 1);
        CHECK.is("0 to NONE", judge.of(0, NONE), 0);
        CHECK.is("NONE to NONE again", judge.of(0, NONE), NONE);
        CHECK.is("the other PLACE", judge.of(1, 0), NONE);
    }

    private static void noneAgain() {
        CHECK.sentence("PLACE i gets .. NONE");
        OrderJudge judge = Judges.with(0, 0, 4, 0, 0, 4, 1, 1);
        Judges.row(judge, 0, 1, 2);
        CHECK.is("before", judge.polygon(3, 3), 1);
        judge.of(1, NONE);
        CHECK.is("one has NONE", judge.polygon(3, 3), NOT);
        CHECK.raises("it has NONE", NullPointerException.class, () -> judge.at(1, 0));
        CHECK.is("it is a PLACE still", judge.count(1), 3);
        judge.of(1, 1);
        CHECK.is("behind that", judge.polygon(3, 3), 1);
    }

    private static void lookAtNone() {
        CHECK.sentence("NullPointerException: it has NONE");
        OrderJudge judge = Judges.with(7, 8);
        judge.size(3);
        judge.of(1, 0);
        for (int what : new int[] {0, 1, 2, -1, Integer.MAX_VALUE, Integer.MIN_VALUE}) {
            CHECK.raises("at(0, " + what + ")", NullPointerException.class, () -> judge.at(0, what));
            CHECK.raises("at(2, " + what + ")", NullPointerException.class, () -> judge.at(2, what));
            CHECK.raises("at(3, " + what + ")", ArrayIndexOutOfBoundsException.class, () -> judge.at(3, what));
            CHECK.raises("at(-1, " + what + ")", ArrayIndexOutOfBoundsException.class, () -> judge.at(-1, what));
        }
        CHECK.is("the one between", judge.at(1, 1), 96);
    }

    private static void oneHasNone() {
        CHECK.sentence("want a POINT in each of them (NOT, if one has NONE)");
        for (int empty = 0; empty < 5; empty++) {
            OrderJudge judge = bow();
            judge.of(empty, NONE);
            for (int n = 1; n <= 5; n++) {
                expectRefused("NONE at " + empty + ", the first " + n, judge, n, empty < n);
            }
        }
        OrderJudge judge = bow();
        judge.size(5);
        for (int n = 1; n <= 5; n++) {
            expectRefused("NONE at all, the first " + n, judge, n, true);
        }
    }

    // Five PLACES; POINT 5 lies on none of their EDGES.
    private static OrderJudge bow() {
        OrderJudge judge = Judges.with(0, 0, 6, 0, 9, 4, 3, 9, -4, 3, 2, 3);
        Judges.row(judge, 0, 1, 2, 3, 4);
        return judge;
    }

    private static void expectRefused(String what, OrderJudge judge, int n, boolean refused) {
        CHECK.is("convex, " + what, judge.convex(n), n < 3 ? BAD : refused ? NOT : 1);
        CHECK.is("polygon, " + what, judge.polygon(n, 5), refused ? NOT : n < 4 ? 0 : 1);
        CHECK.is("winding, " + what, judge.winding(n, 5), refused ? -100 : n < 4 ? 0 : 1);
        CHECK.is("nearest, " + what, judge.nearest(0, n), refused ? NOT : 1);
        CHECK.is("around, " + what, judge.around(0, n, 0), refused ? NOT : 0);
        CHECK.is("order, " + what, judge.order(n, n - 1), refused ? NOT : Math.min(n - 1, 2));
        CHECK.is("area, " + what, judge.area(n, 144), refused ? 0 : new int[] {0, 0, 24, 93, 138}[n - 1]);
    }

    private static void noneBehindTheFirst() {
        CHECK.sentence("Calls that tell of its first n PLACES");
        OrderJudge judge = bow();
        judge.of(3, NONE);
        judge.of(4, NONE);
        expectRefused("NONE behind the first three", judge, 3, false);
        expectRefused("NONE at the fourth", judge, 4, true);
    }

    private static void noMeet() {
        CHECK.sentence("(0: no MEET)");
        OrderJudge judge = Judges.with(0, 0, 4, 2, 0, 1, 4, 3, 0, 5, 4, 7, 8, 4);
        expectLines("no LINE", judge, 0, 0, 0, 1, 0, 0, 0);
        judge.line(0, 1);
        expectLines("one LINE", judge, 1, 1, 0, 2, 1, 0, 0);
        judge.line(6, 1);
        expectLines("the same LINE twice", judge, 2, 1, 0, 2, 1, 0, 0);
        judge.line(2, 3);
        expectLines("two that are parallel, one of them twice", judge, 3, 2, 0, 3, 2, 0, 0);
        judge.line(5, 4);
        expectLines("three that are parallel", judge, 4, 3, 0, 4, 3, 0, 0);
        judge.line(0, 2);
        expectLines("and one across", judge, 5, 4, 3, 8, 10, 0, 2);
        expectLines("without that one", judge, 4, 3, 0, 4, 3, 0, 0);
    }

    private static void noLineOfSome() {
        CHECK.sentence("Of the first n LINES (0 and more)");
        OrderJudge judge = Judges.with(0, 0, 4, 0, 0, 4);
        judge.line(0, 1);
        judge.line(1, 2);
        judge.line(2, 0);
        expectLines("all", judge, 3, 3, 3, 7, 9, 1, 2);
        expectLines("none of three", judge, 0, 0, 0, 1, 0, 0, 0);
    }

    private static void expectLines(String what, OrderJudge judge, int n, int... due) {
        for (int k = 0; k < due.length; k++) {
            CHECK.is(what + ", what = " + k, judge.lines(n, k), due[k]);
        }
    }
}
