/** Promises 10 to 13: between, inside, cross, separated. */
public final class FewTest {
    private static final Check CHECK = new Check("FewTest");

    public static void main(String[] args) {
        betweens();
        narrowAngles();
        wideAngles();
        flatAngles();
        crossings();
        crossingsInLine();
        crossingsOfSinglePoints();
        separatedOnCircle();
        separatedOnLine();
        separatedRefusals();
        noSuchPoints();
        CHECK.end();
    }

    private static void betweens() {
        CHECK.sentence("2: b is EQUAL to a or c; 1: it lies on the line between them; 0: neither");
        OrderJudge judge = Judges.with(0, 0, 6, 3, 2, 1, 8, 4, 2, 2, 0, 0);
        CHECK.is("between", judge.between(0, 2, 1), 1);
        CHECK.is("between, backwards", judge.between(1, 2, 0), 1);
        CHECK.is("beyond", judge.between(0, 3, 1), 0);
        CHECK.is("before", judge.between(2, 0, 1), 0);
        CHECK.is("beside", judge.between(0, 4, 1), 0);
        CHECK.is("b EQUAL to a", judge.between(0, 5, 1), 2);
        CHECK.is("b EQUAL to c", judge.between(1, 5, 0), 2);
        CHECK.is("all EQUAL", judge.between(0, 5, 0), 2);
        CHECK.is("a EQUAL to c, b not", judge.between(0, 1, 5), 0);
    }

    // 0: the corner; 1: right; 2: up; 3: left; 4: down; 5 to 8: between these, going left; 9: EQUAL to 0; 10: far right.
    private static OrderJudge rose() {
        return Judges.with(10, 10, 12, 10, 10, 13, 7, 10, 10, 4, 11, 11, 8, 12, 7, 7, 14, 9, 10, 10, 20, 10);
    }

    private static void narrowAngles() {
        CHECK.sentence("The angle at a, from the direction of b to that of c, going round to the left (less than half a turn)");
        OrderJudge judge = rose();
        int[] due = {2, 2, 2, 0, 0, 1, 0, 0, 0, 2, 2};
        for (int d = 0; d < due.length; d++) {
            CHECK.is("right to up, " + d, judge.inside(0, 1, 2, d), due[d]);
        }
    }

    private static void wideAngles() {
        CHECK.sentence("The angle at a, from the direction of b to that of c, going round to the left (more than half a turn)");
        OrderJudge judge = rose();
        int[] due = {2, 2, 2, 1, 1, 0, 1, 1, 1, 2, 2};
        for (int d = 0; d < due.length; d++) {
            CHECK.is("up to right, " + d, judge.inside(0, 2, 1, d), due[d]);
        }
    }

    private static void flatAngles() {
        CHECK.sentence("going round to the left (half a turn; b and c in one direction: that alone) .. NOT: b or c is EQUAL to a");
        OrderJudge judge = rose();
        int[] half = {2, 2, 1, 2, 0, 1, 1, 0, 0, 2, 2};
        int[] alone = {2, 2, 0, 0, 0, 0, 0, 0, 0, 2, 2};
        for (int d = 0; d < half.length; d++) {
            CHECK.is("right to left, " + d, judge.inside(0, 1, 3, d), half[d]);
            CHECK.is("right to right, " + d, judge.inside(0, 1, 1, d), alone[d]);
            CHECK.is("right to far right, " + d, judge.inside(0, 10, 1, d), alone[d]);
        }
        CHECK.is("b is a", judge.inside(0, 0, 1, 2), OrderJudge.NOT);
        CHECK.is("b EQUAL to a", judge.inside(0, 9, 1, 2), OrderJudge.NOT);
        CHECK.is("c EQUAL to a", judge.inside(0, 1, 9, 0), OrderJudge.NOT);
    }

    private static void crossings() {
        CHECK.sentence("0: they have no point in common; 1: one, that is an end of neither; 2: one, that is an end");
        OrderJudge judge = Judges.with(0, 0, 10, 10, 0, 10, 10, 0, 5, 5, 20, 0, 0, 20, 20, 20, 5, 0);
        CHECK.is("cross", judge.cross(0, 1, 2, 3), 1);
        CHECK.is("an end of the second on the first", judge.cross(0, 1, 4, 3), 2);
        CHECK.is("an end of the first on the second", judge.cross(4, 3, 0, 1), 2);
        CHECK.is("a common end", judge.cross(0, 1, 0, 3), 2);
        CHECK.is("the lines would cross beyond the first", judge.cross(0, 4, 5, 6), 0);
        CHECK.is("the lines would cross beyond the second", judge.cross(5, 6, 0, 4), 0);
        CHECK.is("parallel", judge.cross(0, 3, 2, 1), 0);
        CHECK.is("apart", judge.cross(0, 8, 7, 6), 0);
    }

    private static void crossingsInLine() {
        CHECK.sentence("2: one, that is an end; 3: more (in one line)");
        OrderJudge judge = Judges.with(0, 0, 2, 4, 4, 8, 6, 12, 5, 0, 5, 2, 5, 4, 5, 6);
        for (int base = 0; base < 8; base += 4) {
            int p = base, q = base + 1, r = base + 2, s = base + 3;
            CHECK.is("apart in line", judge.cross(p, q, r, s), 0);
            CHECK.is("apart in line, backwards", judge.cross(s, r, p, q), 0);
            CHECK.is("end to end", judge.cross(p, q, q, s), 2);
            CHECK.is("end to end, backwards", judge.cross(s, q, q, p), 2);
            CHECK.is("partly over", judge.cross(p, r, q, s), 3);
            CHECK.is("one in the other", judge.cross(p, s, r, q), 3);
            CHECK.is("one in the other, with an end", judge.cross(p, s, p, q), 3);
            CHECK.is("the same", judge.cross(p, s, p, s), 3);
            CHECK.is("the same, backwards", judge.cross(p, s, s, p), 3);
        }
    }

    private static void crossingsOfSinglePoints() {
        CHECK.sentence("The ways from a to b, and from c to d, straight, ends with them (a way of one point)");
        OrderJudge judge = Judges.with(0, 0, 4, 4, 2, 2, 2, 3, 6, 6, 2, 2);
        CHECK.is("a single point within", judge.cross(2, 2, 0, 1), 2);
        CHECK.is("a single point of EQUAL ones within", judge.cross(0, 1, 2, 5), 2);
        CHECK.is("a single point at the end", judge.cross(0, 1, 1, 1), 2);
        CHECK.is("a single point beside", judge.cross(0, 1, 3, 3), 0);
        CHECK.is("a single point beside, told first", judge.cross(3, 3, 0, 1), 0);
        CHECK.is("a single point beyond", judge.cross(4, 4, 0, 1), 0);
        CHECK.is("two single EQUAL points", judge.cross(2, 2, 5, 5), 2);
        CHECK.is("two single points", judge.cross(2, 2, 3, 3), 0);
    }

    private static void separatedOnCircle() {
        CHECK.sentence("Whether a and b separate c and d on their circle");
        for (int a = 0; a < 6; a++) {
            // One for all would be used for more than 512 calls.
            OrderJudge judge = Judges.with(5, 0, 3, 4, 0, 5, -3, 4, -5, 0, 0, -5);
            for (int b = 0; b < 6; b++) {
                for (int c = 0; c < 6; c++) {
                    for (int d = 0; d < 6; d++) {
                        CHECK.is("on a circle", judge.separated(a, b, c, d), dueByPlaces(a, b, c, d));
                    }
                }
            }
        }
    }

    private static void separatedOnLine() {
        CHECK.sentence("or line (that closes far away)");
        for (int a = 0; a < 5; a++) {
            OrderJudge judge = Judges.with(-6, 2, -3, 3, 0, 4, 3, 5, 6, 6);
            for (int b = 0; b < 5; b++) {
                for (int c = 0; c < 5; c++) {
                    for (int d = 0; d < 5; d++) {
                        CHECK.is("on a line", judge.separated(a, b, c, d), dueByPlaces(a, b, c, d));
                    }
                }
            }
        }
    }

    // The numbers go round in order: exactly one of c, d lies from a to b, or they are not separated.
    private static int dueByPlaces(int a, int b, int c, int d) {
        if (a == b || a == c || a == d || b == c || b == d || c == d) {
            return OrderJudge.NOT;
        }
        int low = Math.min(a, b);
        int high = Math.max(a, b);
        boolean cIn = c > low && c < high;
        boolean dIn = d > low && d < high;
        return cIn != dIn ? 1 : 0;
    }

    private static void separatedRefusals() {
        CHECK.sentence("NOT: two are EQUAL, or they are on no circle and no line");
        OrderJudge judge = Judges.with(5, 0, 0, 5, -5, 0, 0, -4, 0, 0, 5, 0, 8, 0);
        CHECK.is("on no circle", judge.separated(0, 1, 2, 3), OrderJudge.NOT);
        CHECK.is("EQUAL ones on the circle", judge.separated(0, 1, 2, 5), OrderJudge.NOT);
        int[] four = {0, 2, 4, 1};
        for (int shift = 0; shift < 4; shift++) {
            CHECK.is("three in line, one beside", judge.separated(four[shift], four[(shift + 1) % 4],
                four[(shift + 2) % 4], four[(shift + 3) % 4]), OrderJudge.NOT);
        }
        CHECK.is("in line, two EQUAL", judge.separated(0, 2, 6, 5), OrderJudge.NOT);
        CHECK.is("in line", judge.separated(2, 0, 4, 6), 1);
    }

    private static void noSuchPoints() {
        CHECK.sentence("BAD: no such POINT");
        OrderJudge judge = Judges.with(0, 0, 1, 0, 0, 1, 5, 7);
        for (int wrong : new int[] {4, -1, -2, 60, Integer.MAX_VALUE, Integer.MIN_VALUE}) {
            for (int at = 0; at < 4; at++) {
                int[] p = {0, 0, 0, 0};
                p[at] = wrong;
                if (at < 3) {
                    CHECK.is("between", judge.between(p[0], p[1], p[2]), OrderJudge.BAD);
                }
                CHECK.is("inside", judge.inside(p[0], p[1], p[2], p[3]), OrderJudge.BAD);
                CHECK.is("cross", judge.cross(p[0], p[1], p[2], p[3]), OrderJudge.BAD);
                CHECK.is("separated", judge.separated(p[0], p[1], p[2], p[3]), OrderJudge.BAD);
            }
        }
    }
}
