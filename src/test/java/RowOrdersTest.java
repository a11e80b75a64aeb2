/** Promises 14 to 20: convex, polygon, winding, nearest, around, order, area. */
public final class RowOrdersTest {
    private static final Check CHECK = new Check("RowOrdersTest");

    public static void main(String[] args) {
        convexRows();
        insideOfRows();
        windings();
        shortRows();
        nearestPlaces();
        sortedRound();
        sortedAcross();
        areas();
        refusals();
        CHECK.end();
    }

    private static void convexRows() {
        OrderJudge judge = Judges.with(0, 0, 10, 0, 10, 10, 0, 10, 5, 0, 4, 4, 5, 10, 0, 0);
        Judges.row(judge, 0, 1, 2, 3);
        CHECK.is("a square to the left", judge.convex(4), 1);
        CHECK.is("its first three", judge.convex(3), 1);
        Judges.row(judge, 3, 2, 1, 0);
        CHECK.is("a square to the right", judge.convex(4), -1);
        Judges.row(judge, 0, 4, 1, 2, 3);
        CHECK.is("one on an EDGE", judge.convex(5), 0);
        Judges.row(judge, 0, 1, 5, 3);
        CHECK.is("one dented in", judge.convex(4), 0);
        Judges.row(judge, 0, 2, 1, 3);
        CHECK.is("one that crosses itself", judge.convex(4), 0);
        Judges.row(judge, 0, 4, 1);
        CHECK.is("in line", judge.convex(3), 0);
        Judges.row(judge, 0, 1, 2, 3, 7);
        CHECK.is("EQUAL ones", judge.convex(5), 0);
        Judges.row(judge, 0, 0, 0);
        CHECK.is("one POINT thrice", judge.convex(3), 0);
        OrderJudge star = Judges.with(0, 100, -59, -81, 95, 31, -95, 31, 59, -81);
        Judges.row(star, 0, 1, 2, 3, 4);
        CHECK.is("a star turns left all the way, but is not convex", star.convex(5), 0);
    }

    // 0 to 3: a square; 4: within; 5: on an EDGE; 6: outside, level with a corner; 7: outside; 8: level with the base.
    private static OrderJudge square() {
        OrderJudge judge = Judges.with(0, 0, 10, 0, 10, 10, 0, 10, 5, 5, 10, 5, -5, 10, 15, 5, -5, 0, 15, 10);
        Judges.row(judge, 0, 1, 2, 3);
        return judge;
    }

    private static void insideOfRows() {
        OrderJudge judge = square();
        int[] due = {2, 2, 2, 2, 1, 2, 0, 0, 0, 0};
        for (int p = 0; p < due.length; p++) {
            CHECK.is("a square and " + p, judge.polygon(4, p), due[p]);
        }
        CHECK.is("the first three and what they leave out", judge.polygon(3, 3), 0);
        CHECK.is("on the EDGE that closes the first three", judge.polygon(3, 4), 2);
        OrderJudge twice = Judges.with(0, 0, 10, 0, 10, 10, 0, 10, 5, 4);
        Judges.row(twice, 0, 1, 2, 3, 0, 1, 2, 3);
        CHECK.is("gone round twice: even", twice.polygon(8, 4), 0);
        OrderJudge tip = Judges.with(0, 0, 5, 5, 10, 0, 5, 10, 1, 5, 9, 5, 5, 5, 20, 5);
        Judges.row(tip, 0, 1, 2, 3);
        CHECK.is("level with a corner below, outside", tip.polygon(4, 4), 0);
        CHECK.is("level with a corner below, on the other side", tip.polygon(4, 5), 0);
        CHECK.is("at the corner", tip.polygon(4, 6), 2);
        OrderJudge diamond = Judges.with(5, 0, 0, 5, -5, 0, 0, -5, 0, 0, -9, 0, 9, 0, -1, 5, 1, -5);
        int[] rows = {0, 1, 2, 3, 0, 1, 2, 3};
        int[] inDiamond = {2, 2, 2, 2, 1, 0, 0, 0, 0};
        for (int turned = 0; turned < 4; turned++) {
            Judges.row(diamond, rows[turned], rows[turned + 1], rows[turned + 2], rows[turned + 3]);
            for (int p = 0; p < inDiamond.length; p++) {
                CHECK.is("level with corners, " + p, diamond.polygon(4, p), inDiamond[p]);
                CHECK.is("level with corners, " + p, diamond.winding(4, p), inDiamond[p] == 2 ? 100 : inDiamond[p]);
            }
            Judges.row(diamond, rows[turned + 3], rows[turned + 2], rows[turned + 1], rows[turned]);
            CHECK.is("level with corners, to the right", diamond.winding(4, 4), -1);
        }
    }

    private static void windings() {
        OrderJudge judge = square();
        int[] due = {100, 100, 100, 100, 1, 100, 0, 0, 0, 0};
        for (int p = 0; p < due.length; p++) {
            CHECK.is("a square and " + p, judge.winding(4, p), due[p]);
        }
        Judges.row(judge, 3, 2, 1, 0);
        CHECK.is("to the right", judge.winding(4, 4), -1);
        Judges.row(judge, 0, 1, 2, 3, 0, 1, 2, 3, 0, 1, 2, 3);
        CHECK.is("thrice", judge.winding(12, 4), 3);
        Judges.row(judge, 3, 2, 1, 0, 3, 2, 1, 0);
        CHECK.is("twice to the right", judge.winding(8, 4), -2);
        OrderJudge star = Judges.with(0, 100, -59, -81, 95, 31, -95, 31, 59, -81, 0, 0, 0, 60);
        Judges.row(star, 0, 1, 2, 3, 4);
        CHECK.is("the middle of a star", star.winding(5, 5), 2);
        CHECK.is("the middle of a star: even", star.polygon(5, 5), 0);
        CHECK.is("the tip of a star", star.winding(5, 6), 1);
        CHECK.is("the tip of a star: odd", star.polygon(5, 6), 1);
    }

    private static void shortRows() {
        OrderJudge judge = Judges.with(1, 1, 5, 5, 3, 3, 3, 4, 1, 1);
        Judges.row(judge, 0, 1);
        CHECK.is("one PLACE: at it", judge.polygon(1, 4), 2);
        CHECK.is("one PLACE: elsewhere", judge.polygon(1, 2), 0);
        CHECK.is("one PLACE: at it", judge.winding(1, 4), 100);
        CHECK.is("one PLACE: elsewhere", judge.winding(1, 2), 0);
        CHECK.is("two PLACES: between", judge.polygon(2, 2), 2);
        CHECK.is("two PLACES: beside", judge.polygon(2, 3), 0);
        CHECK.is("two PLACES: beside", judge.winding(2, 3), 0);
        CHECK.is("one PLACE: nearest", judge.nearest(3, 1), 1);
        CHECK.is("one PLACE: around", judge.around(3, 1, 0), 0);
        CHECK.is("one PLACE: order", judge.order(1, 0), 0);
        CHECK.is("one PLACE: area", judge.area(1, 1), 0);
        CHECK.is("two PLACES: area", judge.area(2, 1), 0);
        CHECK.is("two PLACES are too few", judge.convex(2), OrderJudge.BAD);
    }

    private static void nearestPlaces() {
        OrderJudge judge = Judges.with(0, 0, 3, 4, 5, 0, -4, -3, 0, 6, 1, 0, 800, 800, -800, -800);
        Judges.row(judge, 4, 1, 2, 3, 5);
        CHECK.is("the first", judge.nearest(0, 1), 1);
        CHECK.is("three at one distance", judge.nearest(0, 4), 0b1110);
        CHECK.is("a nearer one", judge.nearest(0, 5), 0b10000);
        CHECK.is("at a PLACE itself", judge.nearest(2, 5), 0b00100);
        int[] all = new int[24];
        Judges.row(judge, all);
        CHECK.is("24 at one POINT", judge.nearest(7, 24), 0xFFFFFF);
        Judges.row(judge, 6, 0);
        CHECK.is("across the whole plane", judge.nearest(7, 2), 2);
        CHECK.is("across the whole plane, alone", judge.nearest(7, 1), 1);
    }

    private static void sortedRound() {
        OrderJudge judge = Judges.with(2, 1, 4, 1, 3, 1, 4, 2, 2, 5, 0, 3, 1, 1, 1, 0, 2, -4, 3, 0, 2, 1, 3, 1);
        //            by direction: 0 centre, 2 11 1 right, 3 4 5 6 upwards and left, 7 8 9 below
        Judges.row(judge, 9, 8, 7, 6, 5, 4, 3, 1, 2, 10, 0, 11);
        int[] due = {9, 10, 8, 11, 7, 6, 5, 4, 3, 2, 1, 0};
        for (int i = 0; i < due.length; i++) {
            CHECK.is("round the centre, " + i, judge.around(0, 12, i), due[i]);
        }
        CHECK.is("the first two alone", judge.around(0, 2, 0), 1);
        CHECK.is("the first two alone", judge.around(0, 2, 1), 0);
    }

    private static void sortedAcross() {
        OrderJudge judge = Judges.with(2, 9, -3, 5, 2, -1, 0, 0, 2, -1);
        Judges.row(judge, 0, 2, 1, 4, 3);
        int[] due = {2, 4, 1, 3, 0};
        for (int i = 0; i < due.length; i++) {
            CHECK.is("by X, " + i, judge.order(5, i), due[i]);
        }
        CHECK.is("the first two alone", judge.order(2, 0), 1);
        CHECK.is("the first two alone", judge.order(2, 1), 0);
    }

    private static void areas() {
        OrderJudge judge = Judges.with(0, 0, 10, 0, 10, 10, 0, 10, 800, 800, -800, 800, -800, -800, 800, -800);
        Judges.row(judge, 0, 1, 2, 3);
        CHECK.is("a square", judge.area(4, 1), 2 * 120 * 120);
        CHECK.is("half of it", judge.area(3, 1), 120 * 120);
        CHECK.is("by 7, towards 0", judge.area(4, 7), 28800 / 7);
        CHECK.is("by -7, towards 0", judge.area(4, -7), -4114);
        CHECK.is("by the least", judge.area(4, Long.MIN_VALUE), 0);
        Judges.row(judge, 3, 2, 1, 0);
        CHECK.is("to the right", judge.area(4, 1), -28800);
        CHECK.is("to the right, by 7, towards 0", judge.area(4, 7), -4114);
        CHECK.is("to the right, by -1", judge.area(4, -1), 28800);
        CHECK.raises("by 0", ArithmeticException.class, () -> judge.area(4, 0));
        CHECK.is("BAD is told before by 0", judge.area(5, 0), 0);
        CHECK.is("BAD is told before by 0", judge.area(0, 0), 0);
        int[] rounds = new int[24];
        for (int i = 0; i < 24; i++) {
            rounds[i] = 4 + i % 4;
        }
        Judges.row(judge, rounds);
        CHECK.is("six rounds of the whole plane, beyond an int", judge.area(24, 1), 6L * 2 * 19200 * 19200);
        judge.of(23, OrderJudge.NONE);
        CHECK.is("NOT is told before by 0", judge.area(24, 0), 0);
        CHECK.is("NOT", judge.area(24, 1), 0);
        CHECK.is("without the one that has NONE", judge.area(20, 1), 5L * 2 * 19200 * 19200);
    }

    private static void refusals() {
        OrderJudge judge = Judges.with(0, 0, 4, 0, 0, 4, 1, 1);
        for (int n : new int[] {0, 1}) {
            CHECK.is("no PLACES", judge.polygon(n, 3), OrderJudge.BAD);
        }
        Judges.row(judge, 0, 1, 2, OrderJudge.NONE);
        for (int n : new int[] {0, -1, 5, 25, Integer.MAX_VALUE, Integer.MIN_VALUE}) {
            expectAll("n = " + n, judge, n, 3, 0, OrderJudge.BAD);
        }
        expectAll("one has NONE", judge, 4, 3, 0, OrderJudge.NOT);
        for (int wrong : new int[] {4, -1, Integer.MAX_VALUE, Integer.MIN_VALUE}) {
            for (int n : new int[] {3, 4}) {
                CHECK.is("polygon of no such POINT", judge.polygon(n, wrong), OrderJudge.BAD);
                CHECK.is("winding of no such POINT", judge.winding(n, wrong), -100);
                CHECK.is("nearest to no such POINT", judge.nearest(wrong, n), OrderJudge.BAD);
                CHECK.is("around no such POINT", judge.around(wrong, n, 0), OrderJudge.BAD);
                CHECK.is("around, i", judge.around(3, n, wrong == 4 ? n : wrong), OrderJudge.BAD);
                CHECK.is("order, i", judge.order(n, wrong == 4 ? n : wrong), OrderJudge.BAD);
            }
        }
        CHECK.is("too few are BAD, not NOT", Judges.with(0, 0).convex(2), OrderJudge.BAD);
        judge.of(0, OrderJudge.NONE);
        CHECK.is("too few are BAD before NOT", judge.convex(2), OrderJudge.BAD);
        CHECK.is("BAD i is told before NOT", judge.order(2, 2), OrderJudge.BAD);
        expectAll("the first has NONE", judge, 3, 3, 0, OrderJudge.NOT);
    }

    private static void expectAll(String what, OrderJudge judge, int n, int p, int i, int due) {
        CHECK.is("convex, " + what, judge.convex(n), due);
        CHECK.is("polygon, " + what, judge.polygon(n, p), due);
        CHECK.is("winding, " + what, judge.winding(n, p), -100);
        CHECK.is("nearest, " + what, judge.nearest(p, n), due);
        CHECK.is("around, " + what, judge.around(p, n, i), due);
        CHECK.is("order, " + what, judge.order(n, i), due);
        CHECK.is("area, " + what, judge.area(n, 1), 0);
    }
}
