/** Wrap-arounds: the EDGE that closes, one PLACE, two PLACES, directions gone round, a line that closes far away. */
public final class WrapAroundTest {
    private static final Check CHECK = new Check("WrapAroundTest");
    private static final int BAD = OrderJudge.BAD, NOT = OrderJudge.NOT;

    public static void main(String[] args) {
        closingEdge();
        closingEdgeOfFewer();
        closingEdgeOfArea();
        closingEdgeOfConvex();
        turnedRows();
        onePlace();
        twoPlaces();
        twoEqualPlaces();
        beginningLevel();
        endLevel();
        edgeLevel();
        edgesAside();
        leftThroughGrowingX();
        leftByHalfATurn();
        leftNearlyAllRound();
        oneDirectionAlone();
        angleAtEqualOnes();
        fromGrowingX();
        nearestDirections();
        nearerFirst();
        equalToTheCentre();
        thenByPlaces();
        separatedOnLines();
        separatedOnCircles();
        separatedNeither();
        CHECK.end();
    }

    // 0 to 3: the corners, going to the left; 4 to 7: the middles of the sides; 8: the middle; 9: near the last corner.
    private static OrderJudge square() {
        OrderJudge judge = Judges.with(0, 0, 8, 0, 8, 8, 0, 8, 4, 0, 8, 4, 4, 8, 0, 4, 4, 4, 1, 7);
        Judges.row(judge, 0, 1, 2, 3);
        return judge;
    }

    private static void closingEdge() {
        CHECK.sentence("An EDGE goes from each of these PLACES to the next one, from the last to the first");
        OrderJudge judge = square();
        for (int middle = 4; middle < 8; middle++) {
            CHECK.is("on EDGE " + (middle - 4), judge.polygon(4, middle), 2);
            CHECK.is("on EDGE " + (middle - 4), judge.winding(4, middle), 100);
        }
        CHECK.is("on none", judge.polygon(4, 8), 1);
        CHECK.is("on none", judge.winding(4, 9), 1);
    }

    private static void closingEdgeOfFewer() {
        CHECK.sentence("An EDGE .. from the last (of the first n PLACES) to the first");
        OrderJudge judge = square();
        CHECK.is("on the EDGE from 2 to 0", judge.polygon(3, 8), 2);
        CHECK.is("on the EDGE from 2 to 0", judge.winding(3, 8), 100);
        CHECK.is("from 2 to 3 there is none", judge.polygon(3, 6), 0);
        CHECK.is("from 3 to 0 there is none", judge.polygon(3, 7), 0);
        CHECK.is("beyond the EDGE that closes", judge.winding(3, 9), 0);
        CHECK.is("on the EDGE from 1 to 0", judge.polygon(2, 4), 2);
        CHECK.is("from 1 to 2 there is none", judge.polygon(2, 5), 0);
    }

    private static void closingEdgeOfArea() {
        CHECK.sentence("area: for all EDGES of the first n PLACES (the last one too)");
        // Away from (0, 0), so that no EDGE's share is 0.
        OrderJudge judge = Judges.with(10, 10, 18, 10, 18, 18, 10, 18);
        Judges.row(judge, 0, 1, 2, 3);
        CHECK.is("four", judge.area(4, 144), 128);
        CHECK.is("three", judge.area(3, 144), 64);
        CHECK.is("two", judge.area(2, 144), 0);
        CHECK.is("one", judge.area(1, 144), 0);
        Judges.row(judge, 3, 2, 1, 0);
        CHECK.is("four, to the right", judge.area(4, 144), -128);
        CHECK.is("three, to the right", judge.area(3, 144), -64);
    }

    private static void closingEdgeOfConvex() {
        CHECK.sentence("convex: of each EDGE all other PLACES");
        OrderJudge judge = Judges.with(0, 0, 8, 0, 8, 8, 0, 8, -1, 4, 0, 4, 1, 4);
        int[] due = {1, 0, 0};
        for (int k = 0; k < 3; k++) {
            Judges.row(judge, 0, 1, 2, 3, 4 + k);
            CHECK.is("PLACE 4 beside the EDGE from 3 to 0", judge.convex(5), due[k]);
            Judges.row(judge, 4 + k, 3, 2, 1, 0);
            CHECK.is("PLACE 0, going to the right", judge.convex(5), -due[k]);
        }
        // All turns are to the left, but it goes round twice: only PLACES that are not next to an EDGE tell.
        OrderJudge twice = Judges.with(0, 0, 9, 0, 8, 8, 0, 9, 1, 1, 7, 1, 7, 7, 1, 7);
        Judges.row(twice, 0, 1, 2, 3, 4, 5, 6, 7);
        CHECK.is("gone round twice", twice.convex(8), 0);
    }

    private static void turnedRows() {
        CHECK.sentence("An EDGE goes from each .. (whichever is the first)");
        OrderJudge judge = square();
        for (int first = 0; first < 4; first++) {
            Judges.row(judge, first, (first + 1) % 4, (first + 2) % 4, (first + 3) % 4);
            CHECK.is("convex from " + first, judge.convex(4), 1);
            CHECK.is("area from " + first, judge.area(4, 144), 128);
            CHECK.is("winding from " + first, judge.winding(4, 8), 1);
            for (int middle = 4; middle < 8; middle++) {
                CHECK.is("polygon from " + first, judge.polygon(4, middle), 2);
            }
        }
    }

    private static void onePlace() {
        CHECK.sentence("An EDGE .. from the last to the first (one PLACE)");
        OrderJudge judge = Judges.with(3, 3, 3, 3, 3, 4, 2, 3, 4, 3, 3, 2);
        Judges.row(judge, 0);
        for (int p = 0; p < 6; p++) {
            CHECK.is("polygon and " + p, judge.polygon(1, p), p < 2 ? 2 : 0);
            CHECK.is("winding and " + p, judge.winding(1, p), p < 2 ? 100 : 0);
            CHECK.is("nearest and " + p, judge.nearest(p, 1), 1);
            CHECK.is("around and " + p, judge.around(p, 1, 0), 0);
        }
        CHECK.is("order", judge.order(1, 0), 0);
        CHECK.is("area", judge.area(1, 1), 0);
        CHECK.is("convex", judge.convex(1), BAD);
    }

    private static void twoPlaces() {
        CHECK.sentence("An EDGE .. from the last to the first (two PLACES)");
        OrderJudge judge = Judges.with(0, 0, 4, 8, 2, 4, 0, 4, 4, 4, 6, 12, -1, -2, 0, 8, 4, 0);
        for (int[] places : new int[][] {{0, 1}, {1, 0}}) {
            Judges.row(judge, places);
            for (int p = 0; p < 9; p++) {
                CHECK.is("polygon and " + p, judge.polygon(2, p), p < 3 ? 2 : 0);
                CHECK.is("winding and " + p, judge.winding(2, p), p < 3 ? 100 : 0);
            }
            CHECK.is("area", judge.area(2, 1), 0);
            CHECK.is("convex", judge.convex(2), BAD);
        }
        CHECK.is("nearest", judge.nearest(2, 2), 0b11);
        CHECK.is("order", judge.order(2, 0), 1);
        CHECK.is("around", judge.around(8, 2, 0), 0);
    }

    private static void twoEqualPlaces() {
        CHECK.sentence("An EDGE .. (between EQUAL ones)");
        OrderJudge judge = Judges.with(0, 0, 8, 0, 8, 8, 0, 8, 8, 0, 4, 4, 20, 0, 8, -5);
        Judges.row(judge, 0, 1, 4, 2, 3);
        CHECK.is("round the middle", judge.winding(5, 5), 1);
        CHECK.is("in line with both", judge.polygon(5, 6), 0);
        CHECK.is("below both", judge.polygon(5, 7), 0);
        CHECK.is("at both", judge.polygon(5, 1), 2);
        CHECK.is("not convex: in line with any other", judge.convex(5), 0);
        CHECK.is("area", judge.area(5, 144), 128);
        Judges.row(judge, 1, 4);
        CHECK.is("at both", judge.polygon(2, 1), 2);
        CHECK.is("above both", judge.polygon(2, 2), 0);
    }

    // The EDGE from (9, 0) to (0, 9) begins level with the middle; all others end or begin below or level with it.
    private static void beginningLevel() {
        CHECK.sentence("RISES .. if Y of its beginning is not above that of p");
        OrderJudge judge = Judges.with(9, 0, 0, 9, -9, 0, 0, -9, 0, 0);
        Judges.row(judge, 0, 1, 2, 3);
        CHECK.is("level with it", judge.winding(4, 4), 1);
        CHECK.is("level with it: odd", judge.polygon(4, 4), 1);
        CHECK.sentence("FALLS .. if Y of its end is not above that of p");
        Judges.row(judge, 3, 2, 1, 0);
        CHECK.is("level with it", judge.winding(4, 4), -1);
        CHECK.is("level with it: odd", judge.polygon(4, 4), 1);
    }

    // POINT 3 lies to the left of all of them, level with POINT 1.
    private static void endLevel() {
        CHECK.sentence("RISES .. Y of its end is (above that of p)");
        OrderJudge judge = Judges.with(0, -9, 9, 0, 0, 9, -5, 0);
        Judges.row(judge, 0, 1, 2);
        CHECK.is("an end that is level", judge.winding(3, 3), 0);
        CHECK.is("an end that is level: even", judge.polygon(3, 3), 0);
        CHECK.sentence("FALLS .. Y of its beginning is (above that of p)");
        Judges.row(judge, 2, 1, 0);
        CHECK.is("a beginning that is level", judge.winding(3, 3), 0);
        CHECK.is("a beginning that is level: even", judge.polygon(3, 3), 0);
    }

    private static void edgeLevel() {
        CHECK.sentence("RISES, FALLS (an EDGE that is level with p all along)");
        OrderJudge judge = Judges.with(0, 0, 8, 0, 8, 8, 0, 8, -3, 0, 11, 0, -3, 8, 11, 8, 4, 8, 4, 0);
        for (int[] places : new int[][] {{0, 1, 2, 3}, {3, 2, 1, 0}}) {
            Judges.row(judge, places);
            for (int p = 4; p < 8; p++) {
                CHECK.is("beside, level, " + p, judge.winding(4, p), 0);
                CHECK.is("beside, level, " + p, judge.polygon(4, p), 0);
            }
            CHECK.is("on the upper one", judge.polygon(4, 8), 2);
            CHECK.is("on the lower one", judge.polygon(4, 9), 2);
        }
        // A step: the level EDGE from (3, 4) to (6, 4) lies in line with the POINT within.
        OrderJudge step = Judges.with(0, 0, 3, 0, 3, 4, 6, 4, 6, 8, 0, 8, 1, 4, -1, 4, 7, 4);
        Judges.row(step, 0, 1, 2, 3, 4, 5);
        CHECK.is("within, level with a step", step.winding(6, 6), 1);
        CHECK.is("outside, level with a step, left", step.winding(6, 7), 0);
        CHECK.is("outside, level with a step, right", step.winding(6, 8), 0);
        Judges.row(step, 5, 4, 3, 2, 1, 0);
        CHECK.is("within, to the right", step.winding(6, 6), -1);
        CHECK.is("outside, to the right", step.polygon(6, 7), 0);
    }

    private static void edgesAside() {
        CHECK.sentence("TURN of its beginning, its end, p is 1; .. is -1");
        OrderJudge judge = Judges.with(0, 0, 8, 0, 4, 8, 4, 1, -4, 1, 12, 1, 4, 9, 4, -1);
        int[] due = {1, 0, 0, 0, 0};
        Judges.row(judge, 0, 1, 2);
        for (int k = 0; k < 5; k++) {
            CHECK.is("to the left, " + k, judge.winding(3, 3 + k), due[k]);
        }
        Judges.row(judge, 2, 1, 0);
        for (int k = 0; k < 5; k++) {
            CHECK.is("to the right, " + k, judge.winding(3, 3 + k), -due[k]);
        }
    }

    // 0: the corner; 1 to 8: the eight winds, from growing X on to the left.
    private static OrderJudge winds() {
        return Judges.with(5, 5, 7, 5, 7, 7, 5, 7, 3, 7, 3, 5, 3, 3, 5, 3, 7, 3);
    }

    private static void leftThroughGrowingX() {
        CHECK.sentence("The angle at a, from the direction of b to that of c, going round to the left");
        for (int b = 1; b <= 8; b++) {
            OrderJudge judge = winds();
            for (int c = 1; c <= 8; c++) {
                for (int d = 0; d <= 8; d++) {
                    int toC = Math.floorMod(c - b, 8);
                    int toD = Math.floorMod(d - b, 8);
                    int due = d == 0 || d == b || d == c ? 2 : toD < toC ? 1 : 0;
                    CHECK.is("from " + b + " to " + c + ", " + d, judge.inside(0, b, c, d), due);
                }
            }
        }
    }

    private static void leftByHalfATurn() {
        CHECK.sentence("inside (by half a turn)");
        OrderJudge judge = Judges.with(0, 0, 5, 2, -10, -4, 1, 1, 1, -1, 10, 4, -5, -2, 15, 7, 15, 5);
        CHECK.is("to the left", judge.inside(0, 1, 2, 3), 1);
        CHECK.is("to the right", judge.inside(0, 1, 2, 4), 0);
        CHECK.is("in the direction of b", judge.inside(0, 1, 2, 5), 2);
        CHECK.is("in the direction of c", judge.inside(0, 1, 2, 6), 2);
        CHECK.is("a hair to the left", judge.inside(0, 1, 2, 7), 1);
        CHECK.is("a hair to the right", judge.inside(0, 1, 2, 8), 0);
        CHECK.is("from c to b, to the left", judge.inside(0, 2, 1, 4), 1);
        CHECK.is("from c to b, to the right", judge.inside(0, 2, 1, 3), 0);
    }

    private static void leftNearlyAllRound() {
        CHECK.sentence("inside (nearly all the way round, and nearly not at all)");
        OrderJudge judge = Judges.with(0, 0, 100, 1, 100, 0, 200, 1, 0, 1, -1, 0, 0, -1, 100, -1, 100, 2);
        int[] within = {4, 5, 6, 7, 8};
        for (int d : within) {
            CHECK.is("nearly all round and " + d, judge.inside(0, 1, 2, d), 1);
            CHECK.is("nearly not at all and " + d, judge.inside(0, 2, 1, d), 0);
        }
        CHECK.is("nearly all round, left out", judge.inside(0, 1, 2, 3), 0);
        CHECK.is("nearly not at all, within", judge.inside(0, 2, 1, 3), 1);
    }

    private static void oneDirectionAlone() {
        CHECK.sentence("(b and c in one direction: that alone)");
        OrderJudge judge = Judges.with(0, 0, 3, 1, 6, 2, 9, 3, -3, -1, 1, 3, -1, -3, 3, 2, 3, 0);
        for (int[] told : new int[][] {{1, 2}, {2, 1}, {1, 1}, {3, 1}}) {
            for (int d = 0; d <= 8; d++) {
                CHECK.is("to " + told[0] + ", " + told[1] + " and " + d, judge.inside(0, told[0], told[1], d), d <= 3 ? 2 : 0);
            }
        }
    }

    private static void angleAtEqualOnes() {
        CHECK.sentence("2: .. or is EQUAL to a .. NOT: b or c is EQUAL to a");
        OrderJudge judge = Judges.with(2, 2, 4, 2, 2, 4, 2, 2);
        CHECK.is("d is a", judge.inside(0, 1, 2, 0), 2);
        CHECK.is("d is EQUAL to a", judge.inside(0, 1, 2, 3), 2);
        CHECK.is("d is EQUAL to a, b and c in one direction", judge.inside(0, 1, 1, 3), 2);
        CHECK.is("b is a", judge.inside(0, 0, 2, 1), NOT);
        CHECK.is("b is EQUAL to a", judge.inside(0, 3, 2, 1), NOT);
        CHECK.is("c is a", judge.inside(0, 1, 0, 1), NOT);
        CHECK.is("c is EQUAL to a", judge.inside(0, 1, 3, 1), NOT);
        CHECK.is("all are", judge.inside(0, 3, 3, 3), NOT);
    }

    private static void fromGrowingX() {
        CHECK.sentence("then by directions, from that of growing X on to the left");
        OrderJudge judge = winds();
        int[] winds = {1, 2, 3, 4, 5, 6, 7, 8};
        for (int turned = 0; turned < 8; turned++) {
            int[] places = new int[8];
            for (int i = 0; i < 8; i++) {
                places[i] = winds[(i + turned) % 8];
            }
            Judges.row(judge, places);
            for (int i = 0; i < 8; i++) {
                CHECK.is("turned by " + turned, judge.at(judge.around(0, 8, i), 2), 1 + i);
            }
        }
    }

    private static void nearestDirections() {
        CHECK.sentence("from that of growing X on to the left (the directions next to X, Y)");
        OrderJudge judge = Judges.with(0, 0, 800, 0, 800, 1, 1, 800, 0, 800, -1, 800, -800, 1, -800, 0, -800, -1,
            -1, -800, 0, -800, 1, -800, 800, -1);
        int[] scattered = {12, 6, 1, 9, 4, 2, 7, 11, 3, 10, 5, 8};
        Judges.row(judge, scattered);
        for (int i = 0; i < 12; i++) {
            CHECK.is("rank " + i, judge.at(judge.around(0, 12, i), 2), 1 + i);
        }
    }

    private static void nearerFirst() {
        CHECK.sentence("of one direction the nearer first");
        OrderJudge judge = Judges.with(1, 1, 9, 5, 5, 3, 3, 2, -1, 0, -3, -1, 1, -7, 1, -2, 800, 1, 2, 1);
        Judges.row(judge, 1, 2, 3, 4, 5, 6, 7, 8, 9);
        int[] due = {9, 8, 3, 2, 1, 4, 5, 7, 6};
        for (int i = 0; i < 9; i++) {
            CHECK.is("rank " + i, judge.around(0, 9, i), due[i] - 1);
        }
    }

    private static void equalToTheCentre() {
        CHECK.sentence("first those EQUAL to c");
        OrderJudge judge = Judges.withParts(1, 1, 1, 2, 1, 1, 6, 6, 6, 1, 0, 1, 2, 2, 2);
        Judges.row(judge, 1, 3, 4, 2, 0, 1);
        int[] due = {2, 3, 4, 0, 5, 1};
        for (int i = 0; i < 6; i++) {
            CHECK.is("rank " + i, judge.around(0, 6, i), due[i]);
            CHECK.is("rank " + i + " round an EQUAL one", judge.around(2, 6, i), due[i]);
        }
    }

    private static void thenByPlaces() {
        CHECK.sentence("then by PLACES");
        OrderJudge judge = Judges.withParts(0, 0, 1, 3, 4, 1, 6, 8, 2, 36, 48, 12);
        Judges.row(judge, 3, 1, 2, 1, 3);
        for (int i = 0; i < 5; i++) {
            CHECK.is("around, EQUAL ones", judge.around(0, 5, i), i);
            CHECK.is("order, EQUAL ones", judge.order(5, i), i);
        }
        OrderJudge across = Judges.with(-800, 800, -800, -800, 800, -800, 800, 800, -800, -800);
        Judges.row(across, 3, 2, 4, 0, 1);
        int[] due = {2, 4, 3, 1, 0};
        for (int i = 0; i < 5; i++) {
            CHECK.is("order: by X, then by Y, then by PLACES", across.order(5, i), due[i]);
        }
    }

    private static void separatedOnLines() {
        CHECK.sentence("or line (that closes far away)");
        long[][] ways = {{1, 0}, {0, 1}, {1, 1}, {-2, 3}, {-1, 0}};
        for (long[] way : ways) {
            long x = way[0], y = way[1];
            eachFour("on a line", -200 * x, -200 * y, 0, 0, x, y, 200 * x, 200 * y);
        }
    }

    private static void separatedOnCircles() {
        CHECK.sentence("each way from a to b on it comes by one of c, d");
        eachFour("on a circle", 5, 0, 0, 5, -5, 0, 0, -5);
        eachFour("on a circle, close by one another", 25, 0, 24, 7, 20, 15, 15, 20);
        eachFour("on a circle, across growing X", 24, -7, 25, 0, 24, 7, -25, 0);
        eachFour("the corners of the plane", 800, 800, -800, 800, -800, -800, 800, -800);
    }

    // The four are told as they come round; each order of them is asked.
    private static void eachFour(String name, long... coordinates) {
        OrderJudge judge = Judges.with(coordinates);
        for (int a = 0; a < 4; a++) {
            for (int b = 0; b < 4; b++) {
                for (int c = 0; c < 4; c++) {
                    int d = 6 - a - b - c;
                    boolean four = a != b && a != c && b != c;
                    if (four) {
                        CHECK.is(name + ": " + a + b + c + d, judge.separated(a, b, c, d), (a + b) % 2 == 0 ? 1 : 0);
                    }
                }
            }
        }
    }

    private static void separatedNeither() {
        CHECK.sentence("NOT: two are EQUAL, or they are on no circle and no line");
        OrderJudge judge = Judges.with(5, 0, 0, 5, -5, 0, 0, -5, 3, 3, 5, 0, 1, 0, 0, 0);
        int[][] refused = {{0, 1, 2, 4}, {4, 0, 1, 2}, {0, 0, 1, 2}, {0, 5, 1, 2}, {0, 1, 5, 2}, {0, 1, 2, 5}, {1, 0, 5, 2},
            {1, 0, 2, 5}, {1, 2, 0, 5}, {0, 2, 6, 1}, {0, 1, 2, 6}, {1, 0, 2, 6}, {0, 2, 1, 6}, {0, 6, 2, 5}, {7, 6, 0, 0}};
        for (int[] p : refused) {
            CHECK.is("separated of " + p[0] + ", " + p[1] + ", " + p[2] + ", " + p[3],
                judge.separated(p[0], p[1], p[2], p[3]), NOT);
        }
        CHECK.is("on a circle", judge.separated(0, 2, 1, 3), 1);
        CHECK.is("on a line", judge.separated(2, 6, 7, 0), 1);
    }
}
