/** THE FILTER at the edge of its doubt, each rounding of it, and what counts while it is on and off. */
public final class FilterEdgeTest {
    private static final Check CHECK = new Check("FilterEdgeTest");
    private static final int BAD = OrderJudge.BAD, NOT = OrderJudge.NOT;

    // Three POINTS (x, y, down), TURN, and whether it is DECIDED: such that another way to reckon in floats (times 1/12,
    // without 12, the difference first, the corner at b or c, three products, fused) or in doubles tells otherwise.
    private static final long[][] ROUNDED_TURNS = {
        {183, 600, 4, 65, 357, 2, 94, 543, 3, 1, 0},
        {-455, -580, 3, 791, 351, 4, 353, -144, 6, -1, 0},
        {456, 38, 3, 763, 204, 2, 799, 32, 6, -1, 1},
        {49, -191, 3, -354, 676, 3, -232, 385, 4, 1, 1},
        {356, -130, 2, 512, -187, 2, 715, -261, 6, 1, 0},
        {-98, 121, 1, -363, 410, 6, 466, -721, 4, 1, 1},
        {757, -215, 3, 588, -192, 2, 43, 202, 3, 1, 1},
        {509, -138, 3, 512, -142, 3, 341, -94, 2, 1, 0},
        {-91, -509, 3, -91, -508, 3, -90, -512, 3, -1, 1},
        {22, -170, 1, 67, -512, 3, 65, -509, 3, -1, 1},
        {-375, 308, 4, -627, 163, 6, -397, 206, 4, 1, 0},
        {-66, 91, 3, 361, -382, 2, 83, -53, 6, -1, 1},
        {-717, 7, 12, -181, 5, 3, -361, 8, 6, 1, 1},
        {-639, -737, 12, -93, -135, 6, 294, 277, 4, -1, 0},
        {205, -265, 12, 512, -294, 12, 385, -282, 12, 1, 0},
        {-611, 186, 3, -190, 53, 1, -418, 131, 2, -1, 0},
        {-501, 109, 4, -510, 107, 4, -768, 160, 6, -1, 0},
        {220, -354, 6, 418, -724, 12, 159, -227, 4, -1, 1},
        {192, -360, 2, -322, 621, 3, -288, 559, 4, 1, 1},
        {6, -362, 3, 22, -341, 3, 31, -699, 6, 1, 1},
    };

    // Four POINTS (x, y, down), RING, and whether it is DECIDED: such that another order of the sum, or one of the
    // other ways above, tells otherwise.
    private static final long[][] ROUNDED_RINGS = {
        {478, -67, 4, -93, 128, 1, 64, 122, 1, 114, -763, 6, -1, 0},
        {-284, 55, 2, -135, 117, 3, -269, 211, 4, -472, -414, 6, 1, 0},
        {-28, -28, 6, -11, -13, 3, -13, -16, 3, -8, -8, 2, -1, 1},
        {14, 311, 4, 777, 731, 12, -384, 314, 6, 654, -423, 6, 1, 1},
        {15, -4, 4, 24, -8, 6, 3, -1, 1, 15, -7, 4, 1, 1},
        {-382, 223, 6, -140, 427, 6, 56, 145, 2, -416, -182, 6, -1, 1},
        {30, 33, 12, 12, 12, 4, 12, 24, 6, 6, 8, 2, -1, 0},
        {436, 32, 4, 326, 44, 3, -13, 189, 2, 73, 79, 1, 1, 0},
        {-333, 16, 4, -218, 500, 6, 57, 81, 1, -153, -302, 4, 1, 0},
        {-21, -30, 1, 152, -54, 1, 603, 173, 3, 71, 169, 1, 1, 1},
        {-25, -75, 3, -22, -64, 2, -75, -66, 3, -21, -18, 1, 1, 1},
        {149, 47, 3, 67, 304, 12, 16, 76, 3, 170, 19, 3, 1, 0},
        {-137, 117, 4, -546, -173, 12, -128, -140, 4, 29, 75, 2, 1, 0},
        {-787, -170, 6, 67, -340, 2, -719, 68, 6, 214, -234, 2, 1, 0},
        {497, 51, 6, 334, -82, 4, -46, 34, 2, 13, -176, 3, 1, 1},
        // Just the doubt itself, of which SIZE * SIZE * SIZE * SIZE would be a float less.
        {80, -5, 12, 80, 3, 12, 66, 11, 12, 75, 13, 12, -1, 0},
        {80, 8, 12, 57, 1, 12, 66, 0, 12, 65, 3, 12, 1, 0},
        {60, 2, 12, 63, 3, 12, 61, -5, 12, 80, 12, 12, -1, 0},
        {76, -7, 12, 80, -9, 12, 72, 12, 12, 80, 11, 12, 1, 0},
    };

    // Four POINTS in quarters, where SIZE is 16 and its doubt 16, RING, the latter sign's sum in 1/256.
    private static final long[][] QUARTER_RINGS = {
        {59, 7, 51, -2, 50, 3, 64, -6, -1, 4094},
        {64, 0, 49, 4, 53, -3, 60, 7, 1, 4094},
        {64, 10, 48, 8, 54, 3, 47, 5, -1, -4094},
        {64, 2, 59, -6, 48, 1, 56, 7, 1, -4094},
        {64, 8, 56, 0, 61, 7, 47, -4, -1, 4096},
        {64, 7, 53, 9, 56, -1, 57, 5, 1, 4096},
        {64, -7, 49, 1, 48, -7, 47, 1, -1, -4096},
        {64, -6, 44, 3, 48, 10, 52, 11, 1, -4096},
        {59, -4, 49, 3, 55, 11, 64, -3, -1, 4098},
        {53, -7, 64, 7, 45, -1, 60, -4, 1, 4098},
        {64, 4, 51, -5, 56, 3, 56, -3, 1, -4098},
        {53, 4, 51, 5, 54, -7, 64, -6, -1, -4098},
    };

    public static void main(String[] args) {
        moreThanTheDoubtOfTurn();
        moreThanTheGreatestDoubtOfTurn();
        moreThanTheDoubtOfRing();
        roundedTurns();
        roundedRings();
        sizeOfSmallest();
        sizeOfPointsTold();
        neverWhatIsZero();
        noneWhileOff();
        offAndOnAgain();
        tellsTheSameOff();
        refusedWhileOff();
        refusedWhileOn();
        filterTellsWhatWas();
        othersAreNotCounted();
        CHECK.end();
    }

    // b and c lie level, a quarter above a, so that TURN in 1/16 is how far they are apart in quarters.
    private static void moreThanTheDoubtOfTurn() {
        CHECK.sentence("It DECIDES, if the size of what comes is more than SIZE * SIZE * 0.000003814697265625f");
        for (int sixteenths = 10; sixteenths <= 22; sixteenths++) {
            OrderJudge judge = Judges.withParts(512, 0, 1, 748, 1, 4, 748 - sixteenths, 1, 4);
            CHECK.is("TURN of " + sixteenths + " / 16", judge.side(0, 1, 2), 1);
            expectDecided("the doubt of 512 is 1, and " + sixteenths + " / 16", judge, sixteenths > 16 ? 1 : 0, sixteenths > 16 ? 0 : 1, 0);
            CHECK.is("TURN of -" + sixteenths + " / 16", judge.side(0, 2, 1), -1);
            expectDecided("the doubt of 512 is 1, and -" + sixteenths + " / 16", judge, sixteenths > 16 ? 2 : 0, sixteenths > 16 ? 0 : 2, 0);
        }
    }

    private static void moreThanTheGreatestDoubtOfTurn() {
        CHECK.sentence("It DECIDES, if .. more than SIZE * SIZE * 0.000003814697265625f (SIZE is 800)");
        for (int apart = 0; apart <= 5; apart++) {
            OrderJudge judge = Judges.with(800, -800, 10, -799, 10 - apart, -799);
            int clear = apart >= 3 ? 1 : 0;
            CHECK.is("TURN of " + apart, judge.side(0, 1, 2), Math.min(apart, 1));
            expectDecided("the doubt of 800 is 2.44, and " + apart, judge, clear, 1 - clear, apart == 0 ? 1 : 0);
        }
        for (int sixteenths = 36; sixteenths <= 43; sixteenths++) {
            OrderJudge judge = Judges.withParts(0, -800, 1, 1, -748, 4, 1, -748 - sixteenths, 4);
            int clear = sixteenths >= 40 ? 1 : 0;
            CHECK.is("TURN of -" + sixteenths + " / 16", judge.side(0, 1, 2), -1);
            expectDecided("the doubt of 800 is 39.06 / 16, and " + sixteenths, judge, clear, 1 - clear, 0);
        }
    }

    private static void moreThanTheDoubtOfRing() {
        CHECK.sentence("of RING (SIZE * SIZE) * (SIZE * SIZE) * 0.000244140625f");
        for (long[] q : QUARTER_RINGS) {
            for (int way = -1; way <= 1; way += 2) {
                OrderJudge judge = new OrderJudge();
                for (int k = 0; k < 8; k += 2) {
                    judge.point(way * q[k], way * q[k + 1], 4);
                }
                CHECK.is("RING of " + q[9] + " / 256", judge.circle(0, 1, 2, 3), q[8]);
                int clear = Math.abs(q[9]) > 4096 ? 1 : 0;
                expectDecided("the doubt of 16 is 4096 / 256, and " + q[9], judge, clear, 1 - clear, 0);
            }
        }
    }

    private static void roundedTurns() {
        CHECK.sentence("THE FILTER reckons these in floats, each act rounded, in the order told, with (float) X / 12.0f");
        for (long[] t : ROUNDED_TURNS) {
            OrderJudge judge = Judges.withParts(t[0], t[1], t[2], t[3], t[4], t[5], t[6], t[7], t[8]);
            String name = "TURN at " + t[0] + ", " + t[1] + ", " + t[2];
            CHECK.is(name, judge.side(0, 1, 2), t[9]);
            expectDecided(name, judge, (int) t[10], (int) (1 - t[10]), 0);
        }
    }

    private static void roundedRings() {
        CHECK.sentence("THE FILTER reckons .. (of RING the latter sign) in floats, each act rounded, in the order told");
        for (long[] t : ROUNDED_RINGS) {
            OrderJudge judge = Judges.withParts(t[0], t[1], t[2], t[3], t[4], t[5], t[6], t[7], t[8], t[9], t[10], t[11]);
            String name = "RING at " + t[0] + ", " + t[1] + ", " + t[2];
            CHECK.is(name, judge.circle(0, 1, 2, 3), t[12]);
            expectDecided(name, judge, (int) t[13], (int) (1 - t[13]), 0);
        }
    }

    private static void sizeOfSmallest() {
        CHECK.sentence("SIZE is the greatest of these .. without sign (a twelfth, and 0)");
        OrderJudge judge = Judges.withParts(0, 0, 12, 1, 0, 12, 0, 1, 12, 1, 1, 12, -1, -1, 12);
        CHECK.is("the smallest TURN there is", judge.side(0, 1, 2), 1);
        CHECK.is("the smallest TURN to the right", judge.side(0, 2, 1), -1);
        expectDecided("clear among the small", judge, 2, 0, 0);
        CHECK.is("on the smallest circle", judge.circle(0, 1, 2, 3), 0);
        CHECK.is("outside the smallest circle", judge.circle(0, 1, 2, 4), -1);
        expectDecided("clear among the small, but not 0", judge, 3, 1, 1);
    }

    // POINTS 1 to 3 are the near ones: each far one is as far to another side.
    private static void sizeOfPointsTold() {
        CHECK.sentence("SIZE is the greatest of these of all POINTS that are told, without sign");
        long[][] far = {{800, 0}, {-800, 0}, {0, 800}, {0, -800}};
        for (long[] f : far) {
            OrderJudge judge = Judges.with(f[0], f[1], 0, 0, 1, 0, 0, 1, 1, -1);
            judge.side(1, 2, 3);
            judge.circle(1, 2, 3, 4);
            expectDecided("a far one that is not told", judge, 2, 0, 0);
            OrderJudge told = Judges.with(f[0], f[1], f[0] - f[0] / 800, f[1] - f[1] / 800, f[0] - f[1] / 800, f[1] + f[0] / 800,
                f[0] - f[0] / 400, f[1] - f[1] / 400);
            CHECK.is("TURN of 1, far away", Math.abs(told.side(0, 1, 2)), 1);
            CHECK.is("RING of 2, far away", told.circle(0, 1, 2, 3), -1);
            expectDecided("far ones that are told", told, 0, 2, 0);
        }
    }

    private static void neverWhatIsZero() {
        CHECK.sentence("a quick filter that decides what is clear, and never what is 0");
        OrderJudge judge = Judges.withParts(1, 1, 3, 2, 2, 3, 3, 3, 3, 0, 0, 12, 5, 0, 1, 0, 5, 1, -5, 0, 1, 3, -4, 1);
        CHECK.is("in line, in thirds", judge.side(0, 1, 2), 0);
        CHECK.is("a again", judge.side(0, 1, 0), 0);
        CHECK.is("b again", judge.side(0, 1, 1), 0);
        CHECK.is("on the circle", judge.circle(4, 5, 6, 7), 0);
        CHECK.is("a again", judge.circle(4, 5, 6, 4), 0);
        CHECK.is("b again", judge.circle(4, 5, 6, 5), 0);
        CHECK.is("c again", judge.circle(6, 5, 4, 4), 0);
        expectDecided("all told 0", judge, 0, 7, 7);
    }

    // POINTS: a clear TURN of 0, 1, 2 and a clear RING of 0, 1, 2, 3; 0, 1, 4 are in line, 0, 1, 2, 5 on a circle.
    private static OrderJudge clear() {
        return Judges.with(0, 0, 4, 0, 0, 4, 1, 1, 8, 0, 4, 4);
    }

    private static void noneWhileOff() {
        CHECK.sentence("THE FILTER DECIDED (what = 0; none while it is off), it did not (1), and told 0 (2)");
        OrderJudge judge = clear();
        judge.filter(false);
        judge.side(0, 1, 2);
        expectDecided("a clear side() while it is off", judge, 0, 1, 0);
        judge.circle(0, 1, 2, 3);
        expectDecided("a clear circle() while it is off", judge, 0, 2, 0);
        judge.side(0, 1, 4);
        expectDecided("a side() that tells 0 while it is off", judge, 0, 3, 1);
        judge.circle(0, 1, 2, 5);
        expectDecided("a circle() that tells 0 while it is off", judge, 0, 4, 2);
    }

    private static void offAndOnAgain() {
        CHECK.sentence("THE FILTER is on, or off (what was counted stands)");
        OrderJudge judge = clear();
        judge.side(0, 1, 2);
        judge.side(0, 1, 4);
        judge.filter(false);
        expectDecided("as it goes off", judge, 1, 1, 1);
        judge.side(0, 1, 2);
        judge.filter(true);
        expectDecided("as it goes on", judge, 1, 2, 1);
        judge.circle(0, 1, 2, 3);
        expectDecided("while it is on again", judge, 2, 2, 1);
        judge.filter(true);
        judge.side(0, 2, 1);
        expectDecided("told to be on while it was", judge, 3, 2, 1);
        judge.filter(false);
        judge.filter(false);
        judge.side(0, 2, 1);
        expectDecided("told to be off while it was", judge, 3, 3, 1);
    }

    private static void tellsTheSameOff() {
        CHECK.sentence("side: TURN of a, b, c; circle: RING of a, b, c, d (THE FILTER on, or off)");
        OrderJudge judge = clear();
        for (int on = 1; on >= 0; on--) {
            judge.filter(on == 1);
            CHECK.is("left", judge.side(0, 1, 2), 1);
            CHECK.is("right", judge.side(0, 2, 1), -1);
            CHECK.is("in line", judge.side(0, 1, 4), 0);
            CHECK.is("within", judge.circle(0, 1, 2, 3), 1);
            CHECK.is("within, to the right", judge.circle(2, 1, 0, 3), 1);
            CHECK.is("outside", judge.circle(0, 1, 2, 4), -1);
            CHECK.is("outside, to the right", judge.circle(2, 1, 0, 4), -1);
            CHECK.is("on it", judge.circle(0, 1, 2, 5), 0);
        }
        expectDecided("once on, once off", judge, 6, 10, 4);
    }

    private static void refusedWhileOff() {
        CHECK.sentence("How many side() and circle(), that were not refused (while it is off)");
        OrderJudge judge = clear();
        judge.filter(false);
        refuseAll(judge);
        expectDecided("none", judge, 0, 0, 0);
    }

    private static void refusedWhileOn() {
        CHECK.sentence("How many side() and circle(), that were not refused");
        OrderJudge judge = clear();
        refuseAll(judge);
        expectDecided("none", judge, 0, 0, 0);
    }

    private static void refuseAll(OrderJudge judge) {
        CHECK.is("side, no such POINT", judge.side(0, 1, 6), BAD);
        CHECK.is("side, no such POINT", judge.side(-1, 1, 2), BAD);
        CHECK.is("side, EQUAL ones", judge.side(1, 1, 2), NOT);
        CHECK.is("circle, no such POINT", judge.circle(0, 1, 2, 6), BAD);
        CHECK.is("circle, no such POINT", judge.circle(0, 1, -1, 2), BAD);
        CHECK.is("circle, in line", judge.circle(0, 1, 4, 2), NOT);
        CHECK.is("circle, EQUAL ones", judge.circle(0, 0, 1, 2), NOT);
        CHECK.is("circle, all EQUAL", judge.circle(0, 0, 0, 0), NOT);
    }

    private static void filterTellsWhatWas() {
        CHECK.sentence("THE FILTER is on, or off: 1, if it was on, else 0");
        OrderJudge judge = new OrderJudge();
        boolean was = true;
        for (int bits = 0b1100101101; bits > 0; bits >>= 1) {
            boolean now = (bits & 1) == 1;
            CHECK.is("to " + now, judge.filter(now), was ? 1 : 0);
            CHECK.is("it is", judge.count(3), now ? 1 : 0);
            was = now;
        }
    }

    private static void othersAreNotCounted() {
        CHECK.sentence("How many side() and circle() (and no others)");
        OrderJudge judge = clear();
        Judges.row(judge, 0, 1, 2, 5);
        judge.between(0, 1, 4);
        judge.inside(0, 1, 2, 3);
        judge.cross(0, 1, 2, 3);
        judge.separated(0, 5, 1, 2);
        judge.convex(4);
        judge.polygon(4, 3);
        judge.winding(4, 3);
        judge.nearest(3, 4);
        judge.around(3, 4, 0);
        judge.order(4, 0);
        judge.area(4, 1);
        judge.line(0, 1);
        judge.line(0, 2);
        judge.lines(2, 1);
        expectDecided("none", judge, 0, 0, 0);
    }

    private static void expectDecided(String what, OrderJudge judge, int clear, int unclear, int zero) {
        CHECK.is(what + ": decided", judge.decided(0), clear);
        CHECK.is(what + ": not decided", judge.decided(1), unclear);
        CHECK.is(what + ": told 0", judge.decided(2), zero);
    }
}
