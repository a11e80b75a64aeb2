/** Refused calls: which refusal of several is told, and that what all other calls answer has not changed. */
public final class RefusedTest {
    private static final Check CHECK = new Check("RefusedTest");
    private static final int NONE = OrderJudge.NONE, BAD = OrderJudge.BAD, FULL = OrderJudge.FULL, NOT = OrderJudge.NOT;
    private static final int LEAST = Integer.MIN_VALUE, MOST = Integer.MAX_VALUE;

    /** Makes an object, always the same. */
    interface Maker {
        OrderJudge make();
    }

    /** A call on the object that is made. */
    interface On {
        long answer(OrderJudge judge);
    }

    private final Maker maker;
    private final String untouched;

    private RefusedTest(Maker maker) {
        this.maker = maker;
        untouched = AllAnswers.of(maker.make());
    }

    public static void main(String[] args) {
        answersTellObjectsApart();
        for (Maker maker : new Maker[] {RefusedTest::ordinary, RefusedTest::switchedOff}) {
            RefusedTest test = new RefusedTest(maker);
            test.points();
            test.sizes();
            test.placesAndPoints();
            test.looks();
            test.sides();
            test.circles();
            test.numbersOfCounts();
            test.betweens();
            test.angles();
            test.crossings();
            test.separations();
            test.convexRows();
            test.polygons();
            test.windings();
            test.nearestPlaces();
            test.ranksAround();
            test.ranksInOrder();
            test.areas();
            test.lines();
            test.numbersOfLines();
        }
        new RefusedTest(RefusedTest::full).whileFull();
        new RefusedTest(OrderJudge::new).whileNew();
        CHECK.end();
    }

    // POINT 5 is EQUAL to 0; 0, 1 and 6 are in line; 0 to 3 lie on a circle. PLACE 4 has NONE.
    private static OrderJudge ordinary() {
        OrderJudge judge = Judges.withParts(0, 0, 1, 4, 0, 1, 4, 4, 1, 0, 4, 1, 1, 2, 3, 0, 0, 12, 8, 0, 1, -800, 799, 1);
        Judges.row(judge, 0, 1, 2, 3, NONE);
        judge.line(0, 1);
        judge.line(1, 2);
        judge.line(0, 2);
        judge.side(0, 1, 2);
        judge.side(0, 1, 6);
        judge.circle(0, 1, 2, 3);
        judge.circle(0, 1, 2, 4);
        return judge;
    }

    private static OrderJudge switchedOff() {
        OrderJudge judge = ordinary();
        judge.filter(false);
        return judge;
    }

    // 60 POINTS, of which 59 is EQUAL to 0, 24 PLACES, 12 LINES.
    private static OrderJudge full() {
        OrderJudge judge = new OrderJudge();
        for (int k = 0; k < 59; k++) {
            judge.point(k, k * (60 - k) - 450, 2);
        }
        judge.point(0, -225, 1);
        judge.size(24);
        for (int i = 0; i < 24; i++) {
            judge.of(i, 2 * i);
        }
        for (int k = 0; k < 12; k++) {
            judge.line(k, k + 3);
        }
        return judge;
    }

    private void refuse(String call, long due, On on) {
        OrderJudge judge = maker.make();
        CHECK.is(call, on.answer(judge), due);
        CHECK.holds("nothing is changed by " + call, AllAnswers.of(judge).equals(untouched));
    }

    private void raise(String call, Class<? extends RuntimeException> due, On on) {
        OrderJudge judge = maker.make();
        CHECK.raises(call, due, () -> on.answer(judge));
        CHECK.holds("nothing is changed by " + call, AllAnswers.of(judge).equals(untouched));
    }

    // Or all that follows would hold for nothing.
    private static void answersTellObjectsApart() {
        CHECK.sentence("what is refused changes nothing (what changes something is seen)");
        String untouched = AllAnswers.of(ordinary());
        CHECK.holds("the same twice", AllAnswers.of(ordinary()).equals(untouched));
        On[] changes = {judge -> judge.point(0, 0, 1), judge -> judge.size(5), judge -> judge.size(4), judge -> judge.of(0, 1),
            judge -> judge.of(0, 5), judge -> judge.of(3, NONE), judge -> judge.of(4, 0), judge -> judge.side(0, 1, 2),
            judge -> judge.circle(0, 1, 2, 3), judge -> judge.filter(false), judge -> judge.line(0, 1)};
        for (On change : changes) {
            OrderJudge judge = ordinary();
            change.answer(judge);
            CHECK.holds("a change", !AllAnswers.of(judge).equals(untouched));
        }
    }

    private void points() {
        CHECK.sentence("point: BAD. what is refused changes nothing");
        long[][] bad = {{801, 0, 1}, {-801, 0, 1}, {0, 801, 1}, {0, -801, 1}, {0, 0, 0}, {0, 0, -1}, {0, 0, 5}, {0, 0, 13},
            {Long.MAX_VALUE, 0, 1}, {0, Long.MIN_VALUE, 1}, {0, 0, Long.MIN_VALUE}, {801, 801, 5}};
        for (long[] b : bad) {
            refuse("point(" + b[0] + ", " + b[1] + ", " + b[2] + ")", BAD, judge -> judge.point(b[0], b[1], b[2]));
        }
    }

    private void sizes() {
        CHECK.sentence("size: BAD: n is above 24; NegativeArraySizeException: n is below 0. what is refused changes nothing");
        for (int n : new int[] {25, MOST}) {
            refuse("size(" + n + ")", BAD, judge -> judge.size(n));
        }
        for (int n : new int[] {-1, LEAST}) {
            raise("size(" + n + ")", NegativeArraySizeException.class, judge -> judge.size(n));
        }
    }

    private void placesAndPoints() {
        CHECK.sentence("of: BAD: no such POINT; ArrayIndexOutOfBoundsException: no such PLACE. Of several the first one told");
        for (int i : new int[] {0, 4, 5, 24, MOST, -1, LEAST}) {
            for (int p : new int[] {8, 60, 99, MOST, -2, LEAST}) {
                refuse("of(" + i + ", " + p + ")", BAD, judge -> judge.of(i, p));
            }
        }
        for (int i : new int[] {5, 24, MOST, -1, LEAST}) {
            for (int p : new int[] {0, 7, NONE}) {
                raise("of(" + i + ", " + p + ")", ArrayIndexOutOfBoundsException.class, judge -> judge.of(i, p));
            }
        }
    }

    private void looks() {
        CHECK.sentence("at: ArrayIndexOutOfBoundsException: no such PLACE; NullPointerException: it has NONE. changes nothing");
        for (int what : new int[] {0, 1, 2, -1}) {
            for (int i : new int[] {5, 24, MOST, -1, LEAST}) {
                raise("at(" + i + ", " + what + ")", ArrayIndexOutOfBoundsException.class, judge -> judge.at(i, what));
            }
            raise("at(4, " + what + ")", NullPointerException.class, judge -> judge.at(4, what));
        }
    }

    private void sides() {
        CHECK.sentence("side: BAD; NOT: a and b are EQUAL. Of several the first one told");
        for (int p : new int[] {8, 60, MOST, -1, LEAST}) {
            refuse("side, a is " + p, BAD, judge -> judge.side(p, 0, 1));
            refuse("side, b is " + p, BAD, judge -> judge.side(0, p, 1));
            refuse("side, c is " + p, BAD, judge -> judge.side(0, 1, p));
            refuse("side, c is " + p + ", and a is b", BAD, judge -> judge.side(0, 0, p));
            refuse("side, c is " + p + ", and a and b are EQUAL", BAD, judge -> judge.side(0, 5, p));
            refuse("side, a and b are " + p, BAD, judge -> judge.side(p, p, 0));
        }
        refuse("side, a is b", NOT, judge -> judge.side(1, 1, 2));
        refuse("side, a and b are EQUAL", NOT, judge -> judge.side(0, 5, 2));
        refuse("side, all are EQUAL", NOT, judge -> judge.side(0, 5, 0));
    }

    private void circles() {
        CHECK.sentence("circle: BAD; NOT: a, b, c are in line. Of several the first one told");
        for (int p : new int[] {8, MOST, -1, LEAST}) {
            refuse("circle, a is " + p, BAD, judge -> judge.circle(p, 0, 1, 2));
            refuse("circle, b is " + p, BAD, judge -> judge.circle(0, p, 1, 2));
            refuse("circle, c is " + p, BAD, judge -> judge.circle(0, 1, p, 2));
            refuse("circle, d is " + p, BAD, judge -> judge.circle(0, 1, 2, p));
            refuse("circle, d is " + p + ", the others in line", BAD, judge -> judge.circle(0, 1, 6, p));
            refuse("circle, d is " + p + ", the others EQUAL", BAD, judge -> judge.circle(0, 0, 5, p));
        }
        refuse("circle, in line", NOT, judge -> judge.circle(0, 1, 6, 2));
        refuse("circle, in line, the middle first", NOT, judge -> judge.circle(1, 0, 6, 2));
        refuse("circle, a and b EQUAL", NOT, judge -> judge.circle(0, 5, 2, 3));
        refuse("circle, b and c EQUAL", NOT, judge -> judge.circle(2, 0, 5, 3));
        refuse("circle, a and c EQUAL", NOT, judge -> judge.circle(0, 2, 5, 3));
        refuse("circle, all EQUAL", NOT, judge -> judge.circle(0, 0, 0, 0));
    }

    private void numbersOfCounts() {
        CHECK.sentence("decided, count: BAD. what is refused changes nothing");
        for (int what : new int[] {-1, 4, 5, MOST, LEAST}) {
            refuse("decided(" + what + ")", BAD, judge -> judge.decided(what));
            refuse("count(" + what + ")", BAD, judge -> judge.count(what));
        }
        refuse("decided(3)", BAD, judge -> judge.decided(3));
    }

    private void betweens() {
        CHECK.sentence("between: BAD. what is refused changes nothing");
        for (int p : new int[] {8, MOST, -1, LEAST}) {
            refuse("between, a is " + p, BAD, judge -> judge.between(p, 0, 1));
            refuse("between, b is " + p, BAD, judge -> judge.between(0, p, 1));
            refuse("between, c is " + p, BAD, judge -> judge.between(0, 1, p));
            refuse("between, c is " + p + ", and a is b", BAD, judge -> judge.between(0, 0, p));
        }
    }

    private void angles() {
        CHECK.sentence("inside: BAD; NOT: b or c is EQUAL to a. Of several the first one told");
        for (int p : new int[] {8, MOST, -1, LEAST}) {
            refuse("inside, a is " + p, BAD, judge -> judge.inside(p, 0, 1, 2));
            refuse("inside, b is " + p, BAD, judge -> judge.inside(0, p, 1, 2));
            refuse("inside, c is " + p, BAD, judge -> judge.inside(0, 1, p, 2));
            refuse("inside, d is " + p, BAD, judge -> judge.inside(0, 1, 2, p));
            refuse("inside, d is " + p + ", and b is EQUAL to a", BAD, judge -> judge.inside(0, 5, 2, p));
        }
        refuse("inside, b is a", NOT, judge -> judge.inside(1, 1, 2, 3));
        refuse("inside, b is EQUAL to a", NOT, judge -> judge.inside(0, 5, 2, 3));
        refuse("inside, c is EQUAL to a", NOT, judge -> judge.inside(0, 2, 5, 3));
        refuse("inside, all are EQUAL", NOT, judge -> judge.inside(0, 5, 5, 0));
    }

    private void crossings() {
        CHECK.sentence("cross: BAD. what is refused changes nothing");
        for (int p : new int[] {8, MOST, -1, LEAST}) {
            refuse("cross, a is " + p, BAD, judge -> judge.cross(p, 0, 1, 2));
            refuse("cross, b is " + p, BAD, judge -> judge.cross(0, p, 1, 2));
            refuse("cross, c is " + p, BAD, judge -> judge.cross(0, 1, p, 2));
            refuse("cross, d is " + p, BAD, judge -> judge.cross(0, 1, 2, p));
        }
    }

    private void separations() {
        CHECK.sentence("separated: BAD; NOT: two are EQUAL, or they are on no circle and no line. Of several the first one told");
        for (int p : new int[] {8, MOST, -1, LEAST}) {
            refuse("separated, a is " + p, BAD, judge -> judge.separated(p, 0, 1, 2));
            refuse("separated, b is " + p, BAD, judge -> judge.separated(0, p, 1, 2));
            refuse("separated, c is " + p, BAD, judge -> judge.separated(0, 1, p, 2));
            refuse("separated, d is " + p, BAD, judge -> judge.separated(0, 1, 2, p));
            refuse("separated, d is " + p + ", the others EQUAL", BAD, judge -> judge.separated(0, 0, 5, p));
        }
        refuse("separated, two are EQUAL", NOT, judge -> judge.separated(0, 1, 2, 5));
        refuse("separated, one twice", NOT, judge -> judge.separated(0, 1, 2, 2));
        refuse("separated, on no circle", NOT, judge -> judge.separated(0, 1, 2, 4));
        refuse("separated, three in line", NOT, judge -> judge.separated(0, 1, 6, 2));
    }

    private void convexRows() {
        CHECK.sentence("convex: BAD; NOT. Of several the first one told");
        for (int n : new int[] {2, 1, 0, -1, LEAST, 6, 24, 25, MOST}) {
            refuse("convex(" + n + ")", BAD, judge -> judge.convex(n));
        }
        refuse("convex(5)", NOT, judge -> judge.convex(5));
    }

    private void polygons() {
        CHECK.sentence("polygon: BAD; NOT. Of several the first one told");
        for (int n : new int[] {0, -1, LEAST, 6, 25, MOST}) {
            refuse("polygon(" + n + ", 4)", BAD, judge -> judge.polygon(n, 4));
        }
        for (int p : new int[] {8, MOST, -1, LEAST}) {
            refuse("polygon(4, " + p + ")", BAD, judge -> judge.polygon(4, p));
            refuse("polygon(5, " + p + ")", BAD, judge -> judge.polygon(5, p));
        }
        refuse("polygon(5, 4)", NOT, judge -> judge.polygon(5, 4));
        refuse("polygon(5, 0), on an EDGE", NOT, judge -> judge.polygon(5, 0));
    }

    private void windings() {
        CHECK.sentence("winding: BAD and NOT: -100. what is refused changes nothing");
        for (int n : new int[] {0, -1, LEAST, 6, 25, MOST}) {
            refuse("winding(" + n + ", 4)", -100, judge -> judge.winding(n, 4));
        }
        for (int p : new int[] {8, MOST, -1, LEAST}) {
            refuse("winding(4, " + p + ")", -100, judge -> judge.winding(4, p));
        }
        refuse("winding(5, 4)", -100, judge -> judge.winding(5, 4));
        refuse("winding(5, 0), on an EDGE", -100, judge -> judge.winding(5, 0));
    }

    private void nearestPlaces() {
        CHECK.sentence("nearest: BAD; NOT. Of several the first one told");
        for (int n : new int[] {0, -1, LEAST, 6, 25, MOST}) {
            refuse("nearest(4, " + n + ")", BAD, judge -> judge.nearest(4, n));
        }
        for (int a : new int[] {8, MOST, -1, LEAST}) {
            refuse("nearest(" + a + ", 4)", BAD, judge -> judge.nearest(a, 4));
            refuse("nearest(" + a + ", 5)", BAD, judge -> judge.nearest(a, 5));
        }
        refuse("nearest(4, 5)", NOT, judge -> judge.nearest(4, 5));
    }

    private void ranksAround() {
        CHECK.sentence("around: BAD: also i; NOT. Of several the first one told");
        for (int n : new int[] {0, -1, LEAST, 6, 25, MOST}) {
            refuse("around(4, " + n + ", 0)", BAD, judge -> judge.around(4, n, 0));
        }
        for (int wrong : new int[] {8, MOST, -1, LEAST}) {
            refuse("around(" + wrong + ", 4, 0)", BAD, judge -> judge.around(wrong, 4, 0));
            refuse("around(" + wrong + ", 5, 0)", BAD, judge -> judge.around(wrong, 5, 0));
            refuse("around(4, 4, " + wrong + ")", BAD, judge -> judge.around(4, 4, wrong));
            refuse("around(4, 5, " + wrong + ")", BAD, judge -> judge.around(4, 5, wrong));
        }
        refuse("around(4, 4, 4)", BAD, judge -> judge.around(4, 4, 4));
        refuse("around(4, 5, 5)", BAD, judge -> judge.around(4, 5, 5));
        refuse("around(4, 5, 4)", NOT, judge -> judge.around(4, 5, 4));
        refuse("around(4, 5, 0)", NOT, judge -> judge.around(4, 5, 0));
    }

    private void ranksInOrder() {
        CHECK.sentence("order: BAD: also i; NOT. Of several the first one told");
        for (int n : new int[] {0, -1, LEAST, 6, 25, MOST}) {
            refuse("order(" + n + ", 0)", BAD, judge -> judge.order(n, 0));
        }
        for (int i : new int[] {8, MOST, -1, LEAST}) {
            refuse("order(4, " + i + ")", BAD, judge -> judge.order(4, i));
            refuse("order(5, " + i + ")", BAD, judge -> judge.order(5, i));
        }
        refuse("order(4, 4)", BAD, judge -> judge.order(4, 4));
        refuse("order(5, 5)", BAD, judge -> judge.order(5, 5));
        refuse("order(5, 4)", NOT, judge -> judge.order(5, 4));
        refuse("order(5, 0)", NOT, judge -> judge.order(5, 0));
    }

    private void areas() {
        CHECK.sentence("area: BAD, NOT: 0; ArithmeticException: by is 0. Of several the first one told");
        for (int n : new int[] {0, -1, LEAST, 6, 9, 25, MOST, 5}) {
            refuse("area(" + n + ", 1)", 0, judge -> judge.area(n, 1));
            refuse("area(" + n + ", 0)", 0, judge -> judge.area(n, 0));
        }
        for (int n = 1; n <= 4; n++) {
            int told = n;
            raise("area(" + n + ", 0)", ArithmeticException.class, judge -> judge.area(told, 0));
        }
    }

    private void lines() {
        CHECK.sentence("line: BAD; NOT: they are EQUAL. Of several the first one told");
        for (int p : new int[] {8, MOST, -1, LEAST}) {
            refuse("line(" + p + ", 0)", BAD, judge -> judge.line(p, 0));
            refuse("line(0, " + p + ")", BAD, judge -> judge.line(0, p));
            refuse("line(" + p + ", " + p + ")", BAD, judge -> judge.line(p, p));
        }
        refuse("line(1, 1)", NOT, judge -> judge.line(1, 1));
        refuse("line(0, 5)", NOT, judge -> judge.line(0, 5));
    }

    private void numbersOfLines() {
        CHECK.sentence("lines: BAD. what is refused changes nothing");
        for (int what = -1; what < 7; what++) {
            for (int n : new int[] {-1, LEAST, 4, 12, 13, MOST}) {
                int told = what;
                refuse("lines(" + n + ", " + what + ")", BAD, judge -> judge.lines(n, told));
            }
        }
        for (int what : new int[] {-1, 6, MOST, LEAST}) {
            for (int n = 0; n <= 3; n++) {
                int told = n;
                refuse("lines(" + n + ", " + what + ")", BAD, judge -> judge.lines(told, what));
            }
        }
    }

    private void whileFull() {
        CHECK.sentence("FULL. what is refused changes nothing");
        refuse("point(1, 1, 1)", FULL, judge -> judge.point(1, 1, 1));
        refuse("point(800, -800, 12)", FULL, judge -> judge.point(800, -800, 12));
        refuse("point(801, 0, 1)", BAD, judge -> judge.point(801, 0, 1));
        refuse("point(0, 0, 7)", BAD, judge -> judge.point(0, 0, 7));
        refuse("line(1, 2)", FULL, judge -> judge.line(1, 2));
        refuse("line(59, 58)", FULL, judge -> judge.line(59, 58));
        refuse("line(0, 59)", NOT, judge -> judge.line(0, 59));
        refuse("line(0, 60)", BAD, judge -> judge.line(0, 60));
        refuse("size(25)", BAD, judge -> judge.size(25));
        refuse("of(23, 60)", BAD, judge -> judge.of(23, 60));
        refuse("of(24, 60)", BAD, judge -> judge.of(24, 60));
        raise("of(24, 59)", ArrayIndexOutOfBoundsException.class, judge -> judge.of(24, 59));
        raise("at(24, 0)", ArrayIndexOutOfBoundsException.class, judge -> judge.at(24, 0));
        raise("area(24, 0)", ArithmeticException.class, judge -> judge.area(24, 0));
        refuse("convex(25)", BAD, judge -> judge.convex(25));
        refuse("order(24, 24)", BAD, judge -> judge.order(24, 24));
        refuse("lines(13, 0)", BAD, judge -> judge.lines(13, 0));
        refuse("side(0, 59, 1)", NOT, judge -> judge.side(0, 59, 1));
    }

    private void whileNew() {
        CHECK.sentence("A new object. what is refused changes nothing");
        refuse("point(0, 0, 0)", BAD, judge -> judge.point(0, 0, 0));
        refuse("size(25)", BAD, judge -> judge.size(25));
        raise("size(-1)", NegativeArraySizeException.class, judge -> judge.size(-1));
        refuse("of(0, 0)", BAD, judge -> judge.of(0, 0));
        raise("of(0, NONE)", ArrayIndexOutOfBoundsException.class, judge -> judge.of(0, NONE));
        raise("at(0, 0)", ArrayIndexOutOfBoundsException.class, judge -> judge.at(0, 0));
        refuse("side(0, 0, 0)", BAD, judge -> judge.side(0, 0, 0));
        refuse("circle(0, 0, 0, 0)", BAD, judge -> judge.circle(0, 0, 0, 0));
        refuse("between(0, 0, 0)", BAD, judge -> judge.between(0, 0, 0));
        refuse("inside(0, 0, 0, 0)", BAD, judge -> judge.inside(0, 0, 0, 0));
        refuse("cross(0, 0, 0, 0)", BAD, judge -> judge.cross(0, 0, 0, 0));
        refuse("separated(0, 0, 0, 0)", BAD, judge -> judge.separated(0, 0, 0, 0));
        refuse("convex(3)", BAD, judge -> judge.convex(3));
        refuse("polygon(1, 0)", BAD, judge -> judge.polygon(1, 0));
        refuse("winding(1, 0)", -100, judge -> judge.winding(1, 0));
        refuse("nearest(0, 1)", BAD, judge -> judge.nearest(0, 1));
        refuse("around(0, 1, 0)", BAD, judge -> judge.around(0, 1, 0));
        refuse("order(1, 0)", BAD, judge -> judge.order(1, 0));
        refuse("area(1, 0)", 0, judge -> judge.area(1, 0));
        refuse("line(0, 0)", BAD, judge -> judge.line(0, 0));
        refuse("lines(1, 0)", BAD, judge -> judge.lines(1, 0));
    }
}
