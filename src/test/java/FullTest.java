/** Full: the last POINT, PLACE and LINE that go in, and the first ones that don't. */
public final class FullTest {
    private static final Check CHECK = new Check("FullTest");
    private static final int BAD = OrderJudge.BAD, FULL = OrderJudge.FULL, NOT = OrderJudge.NOT;

    public static void main(String[] args) {
        sixtyPoints();
        sixtyEqualPoints();
        lastPointInCalls();
        badAheadOfFull();
        refusedPointsTakeNoRoom();
        lastPlace();
        ordersOfAllPlaces();
        areaOfAllPlaces();
        edgesOfAllPlaces();
        rowKeepsItsPoints();
        twelveLines();
        refusedLinesTakeNoRoom();
        firstRefusalOfLine();
        linesInGeneral();
        linesThroughOne();
        linesInParallel();
        linesInGrid();
        oneLineTwelveTimes();
        CHECK.end();
    }

    // All on y = x x - 400, so that no three of them are in line.
    private static OrderJudge full() {
        OrderJudge judge = new OrderJudge();
        for (int k = 0; k < 60; k++) {
            judge.point(k - 30, (k - 30) * (k - 30) - 400, 1);
        }
        return judge;
    }

    private static void sixtyPoints() {
        CHECK.sentence("POINTS, 60 at most, are numbered from 0 on as they come");
        OrderJudge judge = new OrderJudge();
        for (int k = 0; k < 60; k++) {
            CHECK.is("POINTS so far", judge.count(0), k);
            CHECK.is("number", judge.point(k, -2 * k, 3), k);
        }
        CHECK.is("the 61st", judge.point(1, 1, 1), FULL);
        CHECK.is("the 61st, EQUAL to one that is there", judge.point(0, 0, 1), FULL);
        CHECK.is("the 61st, at a corner", judge.point(800, -800, 12), FULL);
        CHECK.is("60 stand", judge.count(0), 60);
        judge.size(1);
        for (int k = 0; k < 60; k++) {
            judge.of(0, k);
            CHECK.is("X of " + k, judge.at(0, 0), 4 * k);
            CHECK.is("Y of " + k, judge.at(0, 1), -8 * k);
        }
    }

    private static void sixtyEqualPoints() {
        CHECK.sentence("POINTS with the same X, Y are EQUAL (each has a number)");
        OrderJudge judge = new OrderJudge();
        int[] downs = {1, 2, 3, 4, 6, 12};
        for (int k = 0; k < 60; k++) {
            int down = downs[k % 6];
            CHECK.is("number", judge.point(5 * down, -7 * down, down), k);
        }
        CHECK.is("the 61st", judge.point(5, -7, 1), FULL);
        for (int k = 0; k < 59; k++) {
            CHECK.is("EQUAL", judge.between(59, k, 0), 2);
            CHECK.is("no side", judge.side(k, 59, 0), NOT);
            CHECK.is("no LINE", judge.line(k, 59), NOT);
        }
    }

    private static void lastPointInCalls() {
        CHECK.sentence("POINTS, 60 at most (the last of them in each call)");
        OrderJudge judge = full();
        CHECK.is("side", judge.side(57, 58, 59), 1);
        CHECK.is("side, to the right", judge.side(59, 58, 57), -1);
        CHECK.is("circle", judge.circle(57, 58, 59, 59), 0);
        CHECK.is("between", judge.between(58, 59, 59), 2);
        CHECK.is("inside", judge.inside(58, 59, 57, 0), 1);
        CHECK.is("cross", judge.cross(59, 58, 58, 57), 2);
        CHECK.is("separated", judge.separated(59, 58, 57, 59), NOT);
        judge.size(2);
        CHECK.is("of", judge.of(1, 59), OrderJudge.NONE);
        CHECK.is("of the 61st", judge.of(1, 60), BAD);
        CHECK.is("at", judge.at(1, 2), 59);
        judge.of(0, 58);
        CHECK.is("polygon", judge.polygon(2, 59), 2);
        CHECK.is("winding", judge.winding(2, 59), 100);
        CHECK.is("nearest", judge.nearest(59, 2), 2);
        CHECK.is("around", judge.around(59, 2, 0), 1);
        CHECK.is("line", judge.line(59, 0), 0);
        CHECK.is("side of the 61st", judge.side(58, 59, 60), BAD);
        CHECK.is("line of the 61st", judge.line(60, 0), BAD);
    }

    private static void badAheadOfFull() {
        CHECK.sentence("point: BAD; FULL. Of several the first one told");
        OrderJudge judge = full();
        CHECK.is("down 5", judge.point(0, 0, 5), BAD);
        CHECK.is("down 0", judge.point(0, 0, 0), BAD);
        CHECK.is("x 801", judge.point(801, 0, 1), BAD);
        CHECK.is("y -801", judge.point(0, -801, 1), BAD);
        CHECK.is("as told", judge.point(0, 0, 1), FULL);
        CHECK.is("60 stand", judge.count(0), 60);
    }

    private static void refusedPointsTakeNoRoom() {
        CHECK.sentence("what is refused changes nothing (of 60 POINTS)");
        OrderJudge judge = new OrderJudge();
        for (int k = 0; k < 60; k++) {
            judge.point(k, 0, 7);
            judge.point(801, k, 1);
            CHECK.is("number", judge.point(k, 0, 1), k);
        }
        CHECK.is("the 61st", judge.point(0, 0, 1), FULL);
    }

    private static void lastPlace() {
        CHECK.sentence("THE ROW has up to 24 PLACES");
        OrderJudge judge = full();
        CHECK.is("all of them", judge.size(24), 0);
        for (int i = 0; i < 24; i++) {
            CHECK.is("PLACE " + i, judge.of(i, 59 - i), OrderJudge.NONE);
        }
        CHECK.raises("the 25th", ArrayIndexOutOfBoundsException.class, () -> judge.of(24, 0));
        CHECK.raises("the 25th", ArrayIndexOutOfBoundsException.class, () -> judge.at(24, 2));
        for (int i = 0; i < 24; i++) {
            CHECK.is("PLACE " + i, judge.at(i, 2), 59 - i);
        }
        CHECK.is("more", judge.size(25), BAD);
        CHECK.is("24 stand", judge.count(1), 24);
        CHECK.is("what the last had", judge.of(23, 0), 36);
    }

    // All 24 PLACES on y = x x, which turns to the left.
    private static OrderJudge bow() {
        OrderJudge judge = new OrderJudge();
        int[] places = new int[24];
        for (int i = 0; i < 24; i++) {
            places[i] = judge.point(i - 12, (i - 12) * (i - 12), 1);
        }
        Judges.row(judge, places);
        return judge;
    }

    private static void ordersOfAllPlaces() {
        CHECK.sentence("n is .. up to how many PLACES there are (24)");
        OrderJudge judge = bow();
        int focus = judge.point(-12, 800, 1);
        CHECK.is("convex", judge.convex(24), 1);
        CHECK.is("convex of more", judge.convex(25), BAD);
        CHECK.is("the nearest is the last", judge.nearest(23, 24), 1 << 23);
        CHECK.is("the nearest of the first 23", judge.nearest(23, 23), 1 << 22);
        CHECK.is("the nearest of more", judge.nearest(23, 25), BAD);
        for (int i = 0; i < 24; i++) {
            CHECK.is("by X", judge.order(24, i), i);
            CHECK.is("round one far above", judge.around(focus, 24, i), i);
        }
        CHECK.is("order of more", judge.order(25, 24), BAD);
        CHECK.is("around of more", judge.around(focus, 25, 24), BAD);
        CHECK.is("i beyond", judge.order(24, 24), BAD);
        CHECK.is("i beyond", judge.around(focus, 24, 24), BAD);
        judge.of(23, 0);
        CHECK.is("the last one spoils it", judge.convex(24), 0);
        CHECK.is("but not without it", judge.convex(23), 1);
        Judges.row(judge, new int[24]);
        CHECK.is("all are nearest", judge.nearest(5, 24), (1 << 24) - 1);
        CHECK.is("by PLACES alone", judge.order(24, 23), 23);
        CHECK.is("by PLACES alone, round it", judge.around(0, 24, 23), 23);
    }

    // Twice the area between y = x x and its chord over 23 steps: (23 23 23 - 23) / 3.
    private static void areaOfAllPlaces() {
        CHECK.sentence("for all EDGES of the first n PLACES (24)");
        OrderJudge judge = bow();
        CHECK.is("24 PLACES", judge.area(24, 144), (23 * 23 * 23 - 23) / 3);
        CHECK.is("23 PLACES", judge.area(23, 144), (22 * 22 * 22 - 22) / 3);
        CHECK.is("more", judge.area(25, 144), 0);
        OrderJudge corners = Judges.with(800, 800, -800, 800, -800, -800, 800, -800);
        int[] there = new int[24];
        int[] back = new int[24];
        for (int i = 0; i < 24; i++) {
            there[i] = i % 4;
            back[i] = 3 - i % 4;
        }
        Judges.row(corners, there);
        CHECK.is("the most there is", corners.area(24, 1), 6L * 2 * 19200 * 19200);
        CHECK.is("by -1", corners.area(24, -1), -6L * 2 * 19200 * 19200);
        Judges.row(corners, back);
        CHECK.is("the least there is", corners.area(24, 1), -6L * 2 * 19200 * 19200);
    }

    private static void edgesOfAllPlaces() {
        CHECK.sentence("An EDGE goes from each of these PLACES to the next one (of 24)");
        OrderJudge judge = bow();
        int within = judge.point(0, 100, 1);
        CHECK.is("within", judge.polygon(24, within), 1);
        CHECK.is("round it", judge.winding(24, within), 1);
        CHECK.is("of more", judge.polygon(25, within), BAD);
        CHECK.is("of more", judge.winding(25, within), -100);
        int onEdge = judge.point(21, 221, 2);
        int beside = judge.point(21, 222, 2);
        CHECK.is("on the EDGE from 22 to 23", judge.polygon(24, onEdge), 2);
        CHECK.is("on the EDGE from 22 to 23", judge.winding(24, onEdge), 100);
        CHECK.is("beside that EDGE", judge.winding(24, beside), 1);
        CHECK.is("it is none of the first 23", judge.polygon(23, onEdge), 0);
        OrderJudge rounds = Judges.with(5, 0, 0, 5, -5, -5, 0, 0);
        int[] places = new int[24];
        for (int i = 0; i < 24; i++) {
            places[i] = i % 3;
        }
        Judges.row(rounds, places);
        CHECK.is("eight times round", rounds.winding(24, 3), 8);
        CHECK.is("eight times round: even", rounds.polygon(24, 3), 0);
        CHECK.is("seven times round", rounds.winding(21, 3), 7);
        CHECK.is("seven times round: odd", rounds.polygon(21, 3), 1);
    }

    private static void rowKeepsItsPoints() {
        CHECK.sentence("what is refused changes nothing (of 24 PLACES)");
        OrderJudge judge = bow();
        CHECK.is("more", judge.size(25), BAD);
        CHECK.raises("less than none", NegativeArraySizeException.class, () -> judge.size(-1));
        CHECK.raises("beyond", ArrayIndexOutOfBoundsException.class, () -> judge.of(24, 0));
        for (int i = 0; i < 24; i++) {
            CHECK.is("PLACE " + i, judge.at(i, 2), i);
        }
    }

    private static void twelveLines() {
        CHECK.sentence("LINES, 12 at most, are numbered from 0 on");
        OrderJudge judge = full();
        for (int k = 0; k < 12; k++) {
            CHECK.is("LINES so far", judge.count(2), k);
            CHECK.is("number", judge.line(k, k + 1), k);
        }
        CHECK.is("the 13th", judge.line(12, 13), FULL);
        CHECK.is("the 13th, the same as the first", judge.line(0, 1), FULL);
        CHECK.is("12 stand", judge.count(2), 12);
        CHECK.is("of all", judge.lines(12, 0), 12);
        CHECK.is("of more", judge.lines(13, 0), BAD);
    }

    private static void refusedLinesTakeNoRoom() {
        CHECK.sentence("what is refused changes nothing (of 12 LINES)");
        OrderJudge judge = Judges.with(0, 0, 1, 1, 0, 0, 2, 5);
        for (int k = 0; k < 12; k++) {
            CHECK.is("EQUAL ones", judge.line(0, 2), NOT);
            CHECK.is("no such POINT", judge.line(0, 4), BAD);
            CHECK.is("number", judge.line(k % 2, 3), k);
        }
        CHECK.is("the 13th", judge.line(0, 1), FULL);
        CHECK.is("DIFFERENT ones", judge.lines(12, 0), 2);
    }

    private static void firstRefusalOfLine() {
        CHECK.sentence("line: BAD; NOT: they are EQUAL; FULL. Of several the first one told");
        OrderJudge judge = Judges.with(0, 0, 1, 1, 0, 0);
        CHECK.is("BAD, there is room", judge.line(3, 3), BAD);
        for (int k = 0; k < 12; k++) {
            judge.line(0, 1);
        }
        CHECK.is("no such a", judge.line(3, 0), BAD);
        CHECK.is("no such b", judge.line(0, -1), BAD);
        CHECK.is("neither is there", judge.line(3, 3), BAD);
        CHECK.is("EQUAL ones", judge.line(0, 2), NOT);
        CHECK.is("one twice", judge.line(1, 1), NOT);
        CHECK.is("as told", judge.line(2, 1), FULL);
        CHECK.is("12 stand", judge.count(2), 12);
    }

    // Chords of y = x x over one step each: no two are parallel, and no three go through one point.
    private static void linesInGeneral() {
        CHECK.sentence("DIFFERENT, MEETS, CELLS, PIECES (of 12 LINES in general)");
        OrderJudge judge = new OrderJudge();
        judge.point(0, 0, 1);
        for (int k = 1; k <= 12; k++) {
            judge.point(k, k * k, 1);
            judge.line(k - 1, k);
        }
        for (int n = 0; n <= 12; n++) {
            int meets = n * (n - 1) / 2;
            int closed = n < 3 ? 0 : (n - 1) * (n - 2) / 2;
            expectLines(judge, n, n, meets, 1 + n + meets, n * n, closed, n < 2 ? 0 : 2);
        }
    }

    private static void linesThroughOne() {
        CHECK.sentence("how many LINES go through the MEET where most of the DIFFERENT ones do (12)");
        OrderJudge judge = Judges.with(-1, -2);
        for (int k = 1; k <= 12; k++) {
            judge.point(k, 7, 1);
            judge.line(k % 2 == 0 ? 0 : k, k % 2 == 0 ? k : 0);
        }
        for (int n = 2; n <= 12; n++) {
            expectLines(judge, n, n, 1, 2 * n, 2 * n, 0, n);
        }
    }

    private static void linesInParallel() {
        CHECK.sentence("CELLS: the parts of the plane that they leave (12 in parallel)");
        OrderJudge judge = new OrderJudge();
        for (int k = 0; k < 12; k++) {
            judge.point(0, k, 1);
            judge.point(3, k + 2, 1);
            judge.line(2 * k, 2 * k + 1);
        }
        for (int n = 0; n <= 12; n++) {
            expectLines(judge, n, n, 0, n + 1, n, 0, 0);
        }
    }

    private static void linesInGrid() {
        CHECK.sentence("PIECES: the parts into which MEETS cut them (6 by 6)");
        OrderJudge judge = new OrderJudge();
        for (int k = 0; k < 6; k++) {
            judge.point(k, -9, 1);
            judge.point(k, 9, 1);
            judge.point(-9, k, 1);
            judge.point(9, k, 1);
            judge.line(4 * k, 4 * k + 1);
            judge.line(4 * k + 2, 4 * k + 3);
        }
        expectLines(judge, 12, 12, 36, 49, 84, 25, 2);
        expectLines(judge, 11, 11, 30, 42, 71, 20, 2);
    }

    private static void oneLineTwelveTimes() {
        CHECK.sentence("Of some of them: the DIFFERENT ones (one, 12 times)");
        OrderJudge judge = new OrderJudge();
        for (int k = 0; k < 13; k++) {
            judge.point(2 * k - 9, 3 * k + 4, 1);
        }
        for (int k = 0; k < 12; k++) {
            judge.line(k % 3 == 0 ? k : 12, k % 3 == 0 ? 12 : k);
        }
        for (int n = 1; n <= 12; n++) {
            expectLines(judge, n, 1, 0, 2, 1, 0, 0);
        }
    }

    private static void expectLines(OrderJudge judge, int n, int... due) {
        for (int k = 0; k < due.length; k++) {
            CHECK.is("the first " + n + ", what = " + k, judge.lines(n, k), due[k]);
        }
    }
}
