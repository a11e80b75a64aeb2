import java.io.IOException;

/**
 * The document from its first line to its last, sentence by sentence, with answers that were reckoned by hand. Its
 * words are compared with DOC.md as they go by, so that no sentence is left out. The public face is FaceTest's.
 */
public final class DocumentTest {
    private static final Check CHECK = new Check("DocumentTest");
    private static final int NONE = OrderJudge.NONE, BAD = OrderJudge.BAD, FULL = OrderJudge.FULL, NOT = OrderJudge.NOT;

    private static String rest = "";
    private static boolean atHand;

    public static void main(String[] args) throws IOException {
        open();
        whatItIs();
        points();
        turn();
        ring();
        theFilter();
        theRow();
        edges();
        linesAndWhatTheyMake();
        answers();
        ahead();
        newObject();
        point();
        size();
        of();
        at();
        side();
        circle();
        filter();
        decided();
        between();
        inside();
        cross();
        separated();
        convex();
        polygon();
        winding();
        nearest();
        around();
        order();
        area();
        line();
        lines();
        count();
        notPromised();
        close();
        CHECK.end();
    }

    private static void open() throws IOException {
        atHand = Document.atHand();
        rest = Document.text().replaceAll("(?s)```java.*?```", "").replaceAll("(?m)^(#|```).*$", "").replaceAll("\\s+", " ").strip();
    }

    private static void says(String words) {
        CHECK.sentence(words);
        if (atHand) {
            boolean next = rest.startsWith(words);
            CHECK.holds("it is the document's next sentence, which goes: " + rest.substring(0, Math.min(60, rest.length())), next);
            rest = next ? rest.substring(words.length()).strip() : rest;
        }
    }

    private static void close() {
        CHECK.holds("nothing is left of the document: " + rest, rest.isEmpty());
    }

    private static void expectDecided(OrderJudge judge, int clear, int unclear, int zero) {
        CHECK.is("decided", judge.decided(0), clear);
        CHECK.is("not decided", judge.decided(1), unclear);
        CHECK.is("told 0", judge.decided(2), zero);
    }

    private static void whatItIs() {
        says("Orders of points in the plane by exact signs: sides, between, angles, circles, crossings, what separates, rows that "
            + "are convex, nearest, sorted, gone round, what lies in them, and the parts that lines make; a quick filter that "
            + "decides what is clear, and never what is 0.");
        OrderJudge judge = Judges.withParts(-800, -800, 1, 800, 800, 1, 799, 799, 1, 1, 1, 12, 799, 800, 12, 799, 799, 12);
        CHECK.is("in line, far apart", judge.side(0, 1, 2), 0);
        CHECK.is("in line, by twelfths", judge.side(0, 1, 3), 0);
        CHECK.is("in line, by twelfths again", judge.side(0, 1, 5), 0);
        expectDecided(judge, 0, 3, 3);
        CHECK.is("a twelfth above, which is clear", judge.side(0, 1, 4), 1);
        expectDecided(judge, 1, 3, 3);
        says("==== 1 POINTS, 60 at most, are numbered from 0 on as they come:");
        OrderJudge full = new OrderJudge();
        for (int k = 0; k < 60; k++) {
            CHECK.is("its number", full.point(k % 7, k % 5, 1), k);
        }
        CHECK.is("one more", full.point(0, 0, 1), FULL);
        CHECK.is("60", full.count(0), 60);
        says("An object is used for at most 512 calls after it has been made; what later calls answer is free.");
        OrderJudge used = Judges.with(0, 0, 3, 0, 0, 3);
        for (int call = 4; call < 512; call++) {
            CHECK.is("call " + call, used.side(0, 1, 2), 1);
        }
        CHECK.is("call 512", used.decided(0), 508);
    }

    private static void points() {
        says("(x / down, y / down) with x, y -800 .. 800, down 1, 2, 3, 4, 6 or 12.");
        OrderJudge judge = new OrderJudge();
        long[] downs = {1, 2, 3, 4, 6, 12};
        for (int k = 0; k < downs.length; k++) {
            CHECK.is("down " + downs[k], judge.point(-800, 800, downs[k]), k);
        }
        long[][] bad = {{801, 0, 1}, {-801, 0, 1}, {0, 801, 1}, {0, -801, 1}, {0, 0, 0}, {0, 0, -1}, {0, 0, 5}, {0, 0, 7}, {0, 0, 8},
            {0, 0, 9}, {0, 0, 10}, {0, 0, 11}, {0, 0, 13}, {0, 0, 24}};
        for (long[] b : bad) {
            CHECK.is(b[0] + ", " + b[1] + ", " + b[2], judge.point(b[0], b[1], b[2]), BAD);
        }
        says("X, Y of one are 12 times these: whole numbers.");
        int[] due = {9600, 4800, 3200, 2400, 1600, 800};
        judge.size(1);
        for (int k = 0; k < due.length; k++) {
            judge.of(0, k);
            CHECK.is("X with down " + downs[k], judge.at(0, 0), -due[k]);
            CHECK.is("Y with down " + downs[k], judge.at(0, 1), due[k]);
        }
        says("POINTS with the same X, Y are EQUAL.");
        OrderJudge equal = Judges.withParts(1, -2, 1, 2, -4, 2, 12, -24, 12, 1, -3, 1, 2, -2, 1);
        CHECK.is("1 and 2 / 2", equal.side(0, 1, 3), NOT);
        CHECK.is("2 / 2 and 12 / 12", equal.line(1, 2), NOT);
        CHECK.is("X alone", equal.line(0, 3), 0);
        CHECK.is("Y alone", equal.line(0, 4), 1);
    }

    private static void turn() {
        says("TURN of a, b, c: the sign of (Xb - Xa) (Yc - Ya) - (Yb - Ya) (Xc - Xa): 1: c lies to the left of the way from a to b, "
            + "-1: to the right, 0: in line (or a, b are EQUAL).");
        OrderJudge judge = Judges.with(2, 1, 6, 3, 5, 3, 5, 2, 10, 5, -2, -1, 2, 1);
        CHECK.is("left", judge.side(0, 1, 2), 1);
        CHECK.is("right", judge.side(0, 1, 3), -1);
        CHECK.is("the way back", judge.side(1, 0, 2), -1);
        CHECK.is("in line, beyond b", judge.side(0, 1, 4), 0);
        CHECK.is("in line, before a", judge.side(0, 1, 5), 0);
        CHECK.is("c is EQUAL to a", judge.side(0, 1, 6), 0);
        Judges.row(judge, 0, 6, 2);
        CHECK.is("a, b EQUAL: TURN is 0, neither side", judge.convex(3), 0);
    }

    private static void ring() {
        says("RING of a, b, c, d: x, y being X, Y of a, b, c less those of d, s being x x + y y: TURN of a, b, c times the sign of "
            + "(sa (xb yc - yb xc) + sb (xc ya - yc xa)) + sc (xa yb - ya xb): 1: d lies within the circle through a, b, c, 0: on "
            + "it, -1: outside.");
        OrderJudge judge = Judges.with(0, 0, 4, 0, 0, 4, 1, 1, 4, 4, 5, 5, -1, 0, 2, -1);
        int[] due = {0, 0, 0, 1, 0, -1, -1, -1};
        int[][] rounds = {{0, 1, 2}, {1, 2, 0}, {2, 0, 1}, {0, 2, 1}, {2, 1, 0}, {1, 0, 2}};
        for (int[] told : rounds) {
            for (int d = 0; d < due.length; d++) {
                CHECK.is("d = " + d, judge.circle(told[0], told[1], told[2], d), due[d]);
            }
        }
    }

    private static void theFilter() {
        says("THE FILTER reckons these (of RING the latter sign) in floats, each act rounded, in the order told, with (float) X / 12.0f "
            + "for X, (float) Y / 12.0f for Y; SIZE is the greatest of these of all POINTS that are told, without sign.");
        OrderJudge near = Judges.withParts(0, 0, 1, 1, 0, 12, 0, 1, 12, 800, -800, 1, 799, -800, 1, 800, -799, 1);
        CHECK.is("near ones, others being far", near.side(0, 1, 2), 1);
        expectDecided(near, 1, 0, 0);
        CHECK.is("the far ones", near.side(3, 4, 5), -1);
        expectDecided(near, 1, 1, 0);
        // Of these the size of TURN is just the doubt, a ninth; but in floats, where thirds are rounded, a little more.
        OrderJudge rounded = Judges.withParts(-91, -509, 3, -91, -508, 3, -90, -512, 3);
        CHECK.is("rounded", rounded.side(0, 1, 2), -1);
        expectDecided(rounded, 1, 0, 0);
        says("It DECIDES, if the size of what comes is more than SIZE * SIZE * 0.000003814697265625f, of RING "
            + "(SIZE * SIZE) * (SIZE * SIZE) * 0.000244140625f.");
        OrderJudge side = Judges.with(-512, 0, -511, 0, -511, 1, -510, 0);
        CHECK.is("1, where the doubt is 1", side.side(0, 1, 2), 1);
        expectDecided(side, 0, 1, 0);
        CHECK.is("2, where the doubt is 1", side.side(0, 3, 2), 1);
        expectDecided(side, 1, 1, 0);
        OrderJudge ring = Judges.with(14, 0, 16, 0, 14, 1, 12, 0, 13, 0, 15, 0, 13, 1, 11, 0);
        CHECK.is("-16, where the doubt is 16", ring.circle(0, 1, 2, 3), -1);
        expectDecided(ring, 0, 1, 0);
        CHECK.is("-16, where the doubt is a little above 12", ring.circle(4, 5, 6, 7), -1);
        expectDecided(ring, 1, 1, 0);
    }

    private static void theRow() {
        says("==== 2 THE ROW has up to 24 PLACES (none at first), each with a POINT, or NONE.");
        OrderJudge judge = Judges.with(3, 4);
        CHECK.is("none at first", judge.size(24), 0);
        CHECK.is("25", judge.size(25), BAD);
        for (int i = 0; i < 24; i++) {
            CHECK.is("it had NONE", judge.of(i, 0), NONE);
        }
        CHECK.is("NONE again", judge.of(23, NONE), 0);
        says("Calls that tell of its first n PLACES want a POINT in each of them (NOT, if one has NONE).");
        CHECK.is("all 23", judge.nearest(0, 23), (1 << 23) - 1);
        CHECK.is("convex", judge.convex(24), NOT);
        CHECK.is("polygon", judge.polygon(24, 0), NOT);
        CHECK.is("winding", judge.winding(24, 0), -100);
        CHECK.is("nearest", judge.nearest(0, 24), NOT);
        CHECK.is("around", judge.around(0, 24, 0), NOT);
        CHECK.is("order", judge.order(24, 23), NOT);
        CHECK.is("area", judge.area(24, 1), 0);
    }

    private static void edges() {
        says("An EDGE goes from each of these PLACES to the next one, from the last to the first.");
        OrderJudge judge = Judges.with(0, -2, 2, 0, 0, 2, -2, 0, 0, 0, 5, 0, -5, 0, -1, -1, 0, 3);
        Judges.row(judge, 0, 1, 2, 3);
        CHECK.is("on the EDGE from the last to the first", judge.polygon(4, 7), 2);
        CHECK.is("of three PLACES that EDGE is another one", judge.polygon(3, 7), 0);
        CHECK.is("and goes by here", judge.polygon(3, 4), 2);
        says("It RISES at a POINT p, if Y of its beginning is not above that of p, Y of its end is, and TURN of its beginning, its "
            + "end, p is 1; it FALLS at p, if Y of its end is not above that of p, Y of its beginning is, and that TURN is -1.");
        CHECK.is("level with two of them, between: one RISES", judge.winding(4, 4), 1);
        CHECK.is("level, to the right: none", judge.winding(4, 5), 0);
        CHECK.is("level, to the left: one RISES, one FALLS", judge.winding(4, 6), 0);
        CHECK.is("and two are even", judge.polygon(4, 6), 0);
        CHECK.is("above", judge.winding(4, 8), 0);
        Judges.row(judge, 3, 2, 1, 0);
        CHECK.is("the other way: one FALLS", judge.winding(4, 4), -1);
        CHECK.is("one is odd", judge.polygon(4, 4), 1);
    }

    private static void expectLines(OrderJudge judge, int n, int... due) {
        for (int what = 0; what < due.length; what++) {
            CHECK.is("of " + n + " LINES, what = " + what, judge.lines(n, what), due[what]);
        }
    }

    private static void linesAndWhatTheyMake() {
        says("==== 3 LINES, 12 at most, are numbered from 0 on, each through two POINTS that are not EQUAL.");
        OrderJudge full = Judges.with(0, 0, 1, 1, 0, 0);
        for (int k = 0; k < 12; k++) {
            CHECK.is("its number", full.line(k % 2, 1 - k % 2), k);
        }
        CHECK.is("one more", full.line(0, 1), FULL);
        CHECK.is("EQUAL ones", full.line(0, 2), NOT);
        says("Of some of them: the DIFFERENT ones; MEETS: the different points where DIFFERENT ones cross; CELLS: the parts of the "
            + "plane that they leave; PIECES: the parts into which MEETS cut them.");
        // The X axis, the same again, the Y axis, y = x, all through (0, 0); then y = 4, which crosses two of them.
        OrderJudge judge = Judges.with(0, 0, 7, 0, 3, 0, -5, 0, 0, 6, 2, 2, 1, 4, -1, 4);
        judge.line(0, 1);
        judge.line(2, 3);
        judge.line(4, 0);
        judge.line(5, 0);
        judge.line(6, 7);
        expectLines(judge, 0, 0, 0, 1, 0, 0, 0);
        expectLines(judge, 1, 1, 0, 2, 1, 0, 0);
        expectLines(judge, 2, 1, 0, 2, 1, 0, 0);
        expectLines(judge, 3, 2, 1, 4, 4, 0, 2);
        expectLines(judge, 4, 3, 1, 6, 6, 0, 3);
        expectLines(judge, 5, 4, 3, 9, 11, 1, 3);
    }

    private static void answers() {
        says("Answers: BAD: no such POINT, or a number that is not as told; FULL; NOT: as told.");
        OrderJudge judge = Judges.with(0, 0, 4, 0, 0, 4);
        CHECK.is("no such POINT", judge.side(0, 1, 3), BAD);
        CHECK.is("NONE is no POINT", judge.side(0, 1, NONE), BAD);
        CHECK.is("a number that is not as told", judge.count(4), BAD);
        CHECK.is("as told", judge.side(1, 1, 2), NOT);
        says("Of several the first one told; what is refused changes nothing.");
        CHECK.is("BAD, then NOT", judge.side(1, 1, 3), BAD);
        CHECK.is("BAD, then NOT", judge.circle(0, 0, 0, 3), BAD);
        CHECK.is("BAD, then no such PLACE", judge.of(9, 3), BAD);
        CHECK.is("BAD, then by", judge.area(1, 0), 0);
        judge.size(1);
        CHECK.is("NOT, then by", judge.area(1, 0), 0);
        CHECK.is("BAD, then NOT", judge.polygon(1, 3), BAD);
        CHECK.is("no POINT came", judge.point(0, 801, 1), BAD);
        CHECK.is("three", judge.count(0), 3);
        CHECK.is("none was counted", judge.decided(0) + judge.decided(1) + judge.decided(2), 0);
    }

    private static void ahead() {
        says("Ahead of the calls `size`, `of`, `at` the interface says: ---- the row.");
        says("Ahead of the calls `side`, `circle`, `filter`, `decided` the interface says: ---- signs.");
        says("Ahead of the calls `between`, `inside`, `cross`, `separated` the interface says: ---- orders of a few.");
        says("Ahead of the calls `convex`, `polygon`, `winding`, `nearest`, `around`, `order`, `area` the interface says: ---- orders of "
            + "the row (n is 1 and more, up to how many PLACES there are).");
        OrderJudge judge = Judges.with(0, 0, 4, 0, 0, 4);
        Judges.row(judge, 0, 1, 2);
        for (int n : new int[] {0, -1, 4, 24, 25, Integer.MAX_VALUE, Integer.MIN_VALUE}) {
            CHECK.is("convex of " + n, judge.convex(n), BAD);
            CHECK.is("polygon of " + n, judge.polygon(n, 0), BAD);
            CHECK.is("winding of " + n, judge.winding(n, 0), -100);
            CHECK.is("nearest of " + n, judge.nearest(0, n), BAD);
            CHECK.is("around of " + n, judge.around(0, n, 0), BAD);
            CHECK.is("order of " + n, judge.order(n, 0), BAD);
            CHECK.is("area of " + n, judge.area(n, 1), 0);
        }
        CHECK.is("1", judge.nearest(0, 1), 1);
        CHECK.is("as many as there are", judge.nearest(1, 3), 2);
        says("Ahead of the calls `line`, `lines`, `count` the interface says: ---- lines.");
    }

    private static void newObject() {
        says("`OrderJudge()`: No POINTS, no PLACES, no LINES; THE FILTER is on.");
        OrderJudge judge = new OrderJudge();
        CHECK.is("POINTS", judge.count(0), 0);
        CHECK.is("PLACES", judge.count(1), 0);
        CHECK.is("LINES", judge.count(2), 0);
        CHECK.is("THE FILTER", judge.count(3), 1);
        expectDecided(judge, 0, 0, 0);
    }

    private static void point() {
        says("`int point(long x, long y, long down)`: A POINT: its number.");
        OrderJudge judge = new OrderJudge();
        CHECK.is("the first", judge.point(1, 2, 3), 0);
        CHECK.is("the second, EQUAL to it", judge.point(2, 4, 6), 1);
        says("BAD; FULL.");
        CHECK.is("BAD", judge.point(Long.MAX_VALUE, 0, 1), BAD);
        for (int k = 2; k < 60; k++) {
            judge.point(0, 0, 1);
        }
        CHECK.is("FULL", judge.point(0, 0, 1), FULL);
        CHECK.is("BAD is the first one told", judge.point(0, 0, 5), BAD);
    }

    private static void size() {
        says("`int size(int n) throws NegativeArraySizeException`: THE ROW has n PLACES, all with NONE: how many it had.");
        OrderJudge judge = Judges.with(1, 1);
        CHECK.is("it had none", judge.size(2), 0);
        judge.of(1, 0);
        CHECK.is("it had two", judge.size(3), 2);
        CHECK.raises("all with NONE", NullPointerException.class, () -> judge.at(1, 2));
        says("BAD: n is above 24; NegativeArraySizeException: n is below 0.");
        CHECK.is("25", judge.size(25), BAD);
        CHECK.raises("-1", NegativeArraySizeException.class, () -> judge.size(-1));
        CHECK.is("24, and three stood", judge.size(24), 3);
        CHECK.is("0", judge.size(0), 24);
    }

    private static void of() {
        says("`int of(int i, int point) throws ArrayIndexOutOfBoundsException`: PLACE i gets a POINT, or NONE: which it had (NONE).");
        OrderJudge judge = Judges.with(1, 1, 2, 2);
        judge.size(2);
        CHECK.is("it had NONE", judge.of(1, 1), NONE);
        CHECK.is("it had 1", judge.of(1, 0), 1);
        CHECK.is("it had 0, and gets NONE", judge.of(1, NONE), 0);
        CHECK.is("it had NONE again", judge.of(1, NONE), NONE);
        says("BAD: no such POINT; ArrayIndexOutOfBoundsException: no such PLACE.");
        CHECK.is("no such POINT", judge.of(0, 2), BAD);
        CHECK.is("no such POINT", judge.of(0, -2), BAD);
        CHECK.raises("no such PLACE", ArrayIndexOutOfBoundsException.class, () -> judge.of(2, 0));
        CHECK.raises("no such PLACE", ArrayIndexOutOfBoundsException.class, () -> judge.of(-1, NONE));
    }

    private static void at() {
        says("`int at(int i, int what) throws ArrayIndexOutOfBoundsException, NullPointerException`: Of the POINT at PLACE i: what = 0 X, "
            + "1 Y; another one: its number (any number).");
        OrderJudge judge = Judges.withParts(9, 9, 1, -5, 7, 3);
        judge.size(2);
        judge.of(0, 1);
        CHECK.is("X", judge.at(0, 0), -20);
        CHECK.is("Y", judge.at(0, 1), 28);
        for (int what : new int[] {2, 3, -1, -4, Integer.MAX_VALUE, Integer.MIN_VALUE}) {
            CHECK.is("its number", judge.at(0, what), 1);
        }
        says("ArrayIndexOutOfBoundsException: no such PLACE; NullPointerException: it has NONE.");
        CHECK.raises("no such PLACE", ArrayIndexOutOfBoundsException.class, () -> judge.at(2, 0));
        CHECK.raises("no such PLACE", ArrayIndexOutOfBoundsException.class, () -> judge.at(-1, 2));
        CHECK.raises("it has NONE", NullPointerException.class, () -> judge.at(1, 0));
    }

    private static void side() {
        says("`int side(int a, int b, int c)`: TURN of a, b, c.");
        OrderJudge judge = Judges.with(0, 0, 0, 8, -1, 3, 1, 3, 0, 3, 0, 0);
        CHECK.is("left", judge.side(0, 1, 2), 1);
        CHECK.is("right", judge.side(0, 1, 3), -1);
        CHECK.is("in line", judge.side(0, 1, 4), 0);
        says("BAD; NOT: a and b are EQUAL.");
        CHECK.is("BAD", judge.side(6, 1, 2), BAD);
        CHECK.is("NOT", judge.side(0, 5, 2), NOT);
        CHECK.is("c EQUAL to a is fine", judge.side(0, 1, 5), 0);
    }

    private static void circle() {
        says("`int circle(int a, int b, int c, int d)`: RING of a, b, c, d.");
        OrderJudge judge = Judges.with(5, 0, -3, 4, 0, -5, 4, -3, 4, -4, 3, -3, 10, 0, -5, 0);
        CHECK.is("on it", judge.circle(0, 1, 2, 3), 0);
        CHECK.is("outside", judge.circle(0, 1, 2, 4), -1);
        CHECK.is("within", judge.circle(0, 1, 2, 5), 1);
        says("BAD; NOT: a, b, c are in line.");
        CHECK.is("BAD", judge.circle(0, 1, 2, 8), BAD);
        CHECK.is("NOT", judge.circle(0, 6, 7, 1), NOT);
        CHECK.is("two of them the same", judge.circle(0, 1, 0, 2), NOT);
    }

    private static void filter() {
        says("`int filter(boolean on)`: THE FILTER is on, or off: 1, if it was on, else 0.");
        OrderJudge judge = new OrderJudge();
        CHECK.is("it was on", judge.filter(false), 1);
        CHECK.is("it is off", judge.count(3), 0);
        CHECK.is("it was off", judge.filter(false), 0);
        CHECK.is("it was off", judge.filter(true), 0);
        CHECK.is("it is on", judge.count(3), 1);
        CHECK.is("it was on", judge.filter(true), 1);
    }

    private static void decided() {
        says("`int decided(int what)`: How many side() and circle(), that were not refused, THE FILTER DECIDED (what = 0; none while it is "
            + "off), it did not (1), and told 0 (2).");
        OrderJudge judge = Judges.with(0, 0, 4, 0, 4, 4, 0, 4, 1, 1, 8, 0);
        judge.side(0, 1, 2);
        judge.circle(0, 1, 2, 4);
        expectDecided(judge, 2, 0, 0);
        judge.side(0, 1, 5);
        judge.circle(0, 1, 2, 3);
        expectDecided(judge, 2, 2, 2);
        judge.side(0, 0, 1);
        judge.side(0, 1, 6);
        judge.circle(0, 1, 5, 2);
        judge.circle(0, 1, 2, 6);
        expectDecided(judge, 2, 2, 2);
        judge.filter(false);
        judge.side(0, 1, 2);
        judge.circle(0, 1, 2, 4);
        expectDecided(judge, 2, 4, 2);
        judge.side(0, 1, 5);
        judge.circle(0, 1, 2, 3);
        expectDecided(judge, 2, 6, 4);
        says("BAD.");
        CHECK.is("3", judge.decided(3), BAD);
        CHECK.is("-1", judge.decided(-1), BAD);
    }

    private static void between() {
        says("`int between(int a, int b, int c)`: 2: b is EQUAL to a or c; 1: it lies on the line between them; 0: neither.");
        OrderJudge judge = Judges.with(1, 1, 7, 4, 3, 2, 9, 5, -1, 0, 4, 2, 7, 4);
        CHECK.is("EQUAL to c", judge.between(0, 6, 1), 2);
        CHECK.is("EQUAL to a", judge.between(6, 1, 0), 2);
        CHECK.is("all EQUAL", judge.between(1, 6, 1), 2);
        CHECK.is("between", judge.between(0, 2, 1), 1);
        CHECK.is("between, from the other end", judge.between(1, 2, 0), 1);
        CHECK.is("beyond c", judge.between(0, 3, 1), 0);
        CHECK.is("before a", judge.between(0, 4, 1), 0);
        CHECK.is("beside", judge.between(0, 5, 1), 0);
        CHECK.is("a and c EQUAL, b elsewhere", judge.between(1, 0, 6), 0);
        says("BAD.");
        CHECK.is("BAD", judge.between(0, 7, 1), BAD);
    }

    private static void inside() {
        says("`int inside(int a, int b, int c, int d)`: The angle at a, from the direction of b to that of c, going round to the left (b "
            + "and c in one direction: that alone): 1: d lies within, 2: in the direction of b or c, or is EQUAL to a, 0: neither.");
        OrderJudge judge = Judges.with(0, 0, 3, 0, 0, 3, 2, 1, -1, 2, -2, -1, 1, -2, 5, 0, 0, 9, -4, 0, 0, 0);
        int[] small = {2, 2, 2, 1, 0, 0, 0, 2, 2, 0, 2};
        int[] large = {2, 2, 2, 0, 1, 1, 1, 2, 2, 1, 2};
        int[] alone = {2, 2, 0, 0, 0, 0, 0, 2, 0, 0, 2};
        int[] half = {2, 2, 1, 1, 1, 0, 0, 2, 1, 2, 2};
        for (int d = 0; d < small.length; d++) {
            CHECK.is("a quarter turn, d = " + d, judge.inside(0, 1, 2, d), small[d]);
            CHECK.is("three quarters, d = " + d, judge.inside(0, 2, 1, d), large[d]);
            CHECK.is("one direction, d = " + d, judge.inside(0, 1, 7, d), alone[d]);
            CHECK.is("half a turn, d = " + d, judge.inside(0, 1, 9, d), half[d]);
        }
        says("BAD; NOT: b or c is EQUAL to a.");
        CHECK.is("BAD", judge.inside(0, 1, 2, 11), BAD);
        CHECK.is("b", judge.inside(0, 10, 1, 2), NOT);
        CHECK.is("c", judge.inside(0, 1, 10, 2), NOT);
    }

    private static void cross() {
        says("`int cross(int a, int b, int c, int d)`: The ways from a to b, and from c to d, straight, ends with them: 0: they have no "
            + "point in common; 1: one, that is an end of neither; 2: one, that is an end; 3: more.");
        OrderJudge judge = Judges.with(0, 0, 6, 0, 3, 3, 3, -3, 3, 0, 9, 0, 7, 5, 0, 0, 12, 0);
        CHECK.is("across", judge.cross(0, 1, 2, 3), 1);
        CHECK.is("an end of one", judge.cross(0, 1, 2, 4), 2);
        CHECK.is("an end of both", judge.cross(0, 1, 6, 1), 2);
        CHECK.is("in line, end to end", judge.cross(0, 1, 5, 1), 2);
        CHECK.is("in line, partly the same", judge.cross(0, 1, 4, 5), 3);
        CHECK.is("in line, the one in the other", judge.cross(0, 5, 4, 1), 3);
        CHECK.is("the same way back", judge.cross(0, 1, 1, 7), 3);
        CHECK.is("in line, apart", judge.cross(0, 4, 5, 8), 0);
        CHECK.is("beside", judge.cross(0, 4, 6, 5), 0);
        CHECK.is("a single point, on it", judge.cross(4, 4, 0, 1), 2);
        CHECK.is("a single point, off it", judge.cross(2, 2, 0, 1), 0);
        CHECK.is("two single points, EQUAL", judge.cross(0, 0, 7, 7), 2);
        CHECK.is("two single points", judge.cross(0, 0, 1, 1), 0);
        says("BAD.");
        CHECK.is("BAD", judge.cross(0, 1, 2, 9), BAD);
    }

    private static void separated() {
        says("`int separated(int a, int b, int c, int d)`: Whether a and b separate c and d on their circle (1, 0: each way from a to b on "
            + "it comes by one of c, d), or line (that closes far away).");
        OrderJudge judge = Judges.with(5, 0, 3, 4, -4, 3, 0, -5, 0, 0, 1, 0, 2, 0, 7, 0, 5, 0);
        CHECK.is("next but one", judge.separated(0, 2, 1, 3), 1);
        CHECK.is("next to each other", judge.separated(0, 1, 2, 3), 0);
        CHECK.is("next to each other, over the beginning", judge.separated(3, 0, 1, 2), 0);
        CHECK.is("line: one between", judge.separated(4, 6, 5, 7), 1);
        CHECK.is("line: both between", judge.separated(4, 7, 5, 6), 0);
        CHECK.is("line: both beyond", judge.separated(4, 5, 6, 7), 0);
        CHECK.is("line: one on either side of both", judge.separated(5, 6, 4, 7), 0);
        says("BAD; NOT: two are EQUAL, or they are on no circle and no line.");
        CHECK.is("BAD", judge.separated(0, 1, 2, 9), BAD);
        CHECK.is("EQUAL", judge.separated(0, 1, 2, 8), NOT);
        CHECK.is("no circle", judge.separated(0, 1, 2, 4), NOT);
        CHECK.is("three in line", judge.separated(4, 5, 6, 1), NOT);
    }

    private static void convex() {
        says("`int convex(int n)`: 1: of each EDGE all other PLACES of the first n (3 and more) lie to the left, -1: to the right, 0: neither.");
        OrderJudge judge = Judges.with(0, 0, 4, 0, 4, 4, 0, 4, 2, 0, 1, 1);
        Judges.row(judge, 0, 1, 2, 3);
        CHECK.is("to the left", judge.convex(4), 1);
        CHECK.is("the first three", judge.convex(3), 1);
        Judges.row(judge, 3, 2, 1, 0);
        CHECK.is("to the right", judge.convex(4), -1);
        Judges.row(judge, 0, 4, 1, 2);
        CHECK.is("one in line", judge.convex(4), 0);
        Judges.row(judge, 5, 1, 2, 3, 0);
        CHECK.is("without the dent", judge.convex(4), 1);
        CHECK.is("a dent", judge.convex(5), 0);
        Judges.row(judge, 0, 1, 2, 0, 1, 2);
        CHECK.is("twice round", judge.convex(6), 0);
        says("BAD; NOT.");
        CHECK.is("two", judge.convex(2), BAD);
        CHECK.is("seven", judge.convex(7), BAD);
        judge.of(5, NONE);
        CHECK.is("NOT", judge.convex(6), NOT);
        CHECK.is("two is BAD all the same", judge.convex(2), BAD);
    }

    private static void polygon() {
        says("`int polygon(int n, int p)`: 2: p lies on an EDGE of the first n PLACES; 1: an odd number of EDGES RISE or FALL at it; 0: an "
            + "even one.");
        OrderJudge judge = Judges.with(0, 0, 8, 0, 8, 8, 0, 8, 3, 2, 8, 5, 9, 9);
        Judges.row(judge, 0, 1, 2, 3, 0, 1, 2, 3);
        CHECK.is("within", judge.polygon(4, 4), 1);
        CHECK.is("on an EDGE", judge.polygon(4, 5), 2);
        CHECK.is("at its end", judge.polygon(4, 2), 2);
        CHECK.is("outside", judge.polygon(4, 6), 0);
        CHECK.is("gone round twice: even", judge.polygon(8, 4), 0);
        CHECK.is("one PLACE, at it", judge.polygon(1, 0), 2);
        CHECK.is("one PLACE, elsewhere", judge.polygon(1, 4), 0);
        says("BAD; NOT.");
        CHECK.is("BAD", judge.polygon(9, 4), BAD);
        CHECK.is("BAD", judge.polygon(8, 7), BAD);
        judge.of(7, NONE);
        CHECK.is("NOT", judge.polygon(8, 4), NOT);
    }

    private static void winding() {
        says("`int winding(int n, int p)`: How often the first n PLACES go round p to the left: how many EDGES RISE at it, less how many "
            + "FALL; 100: it lies on an EDGE.");
        OrderJudge judge = Judges.with(0, 0, 8, 0, 8, 8, 0, 8, 3, 2, 8, 5, 9, 9);
        Judges.row(judge, 0, 1, 2, 3, 0, 1, 2, 3);
        CHECK.is("once", judge.winding(4, 4), 1);
        CHECK.is("twice", judge.winding(8, 4), 2);
        CHECK.is("on an EDGE", judge.winding(8, 5), 100);
        CHECK.is("outside", judge.winding(8, 6), 0);
        Judges.row(judge, 3, 2, 1, 0, 3, 2, 1, 0, 3, 2, 1, 0);
        CHECK.is("three times to the right", judge.winding(12, 4), -3);
        says("BAD and NOT: -100.");
        CHECK.is("BAD", judge.winding(13, 4), -100);
        CHECK.is("BAD", judge.winding(12, 7), -100);
        judge.of(0, NONE);
        CHECK.is("NOT", judge.winding(12, 4), -100);
    }

    private static void nearest() {
        says("`int nearest(int a, int n)`: Those of the first n PLACES that are nearest to a, as bits.");
        OrderJudge judge = Judges.with(0, 0, 3, 4, 5, 0, -4, -3, 1, 1, 7, 7);
        Judges.row(judge, 5, 1, 2, 3, 4);
        CHECK.is("one", judge.nearest(0, 1), 1);
        CHECK.is("another one", judge.nearest(0, 2), 2);
        CHECK.is("two as near", judge.nearest(0, 3), 2 + 4);
        CHECK.is("three as near", judge.nearest(0, 4), 2 + 4 + 8);
        CHECK.is("a nearer one", judge.nearest(0, 5), 16);
        CHECK.is("itself", judge.nearest(1, 5), 2);
        says("BAD; NOT.");
        CHECK.is("BAD", judge.nearest(6, 5), BAD);
        CHECK.is("BAD", judge.nearest(0, 6), BAD);
        judge.of(0, NONE);
        CHECK.is("NOT", judge.nearest(0, 5), NOT);
    }

    private static void around() {
        says("`int around(int c, int n, int i)`: The first n PLACES in order round c, from 0 on: first those EQUAL to c; then by "
            + "directions, from that of growing X on to the left; of one direction the nearer first; then by PLACES: PLACE i of these.");
        OrderJudge judge = Judges.with(1, 1, 2, 0, 0, 0, 0, 1, 5, 5, 3, 1, 2, 2, 1, 1, 2, 1, 1, -4, 1, 9);
        Judges.row(judge, 1, 2, 3, 4, 5, 6, 7, 8, 9, 10, 6);
        int[] due = {6, 7, 4, 5, 10, 3, 9, 2, 1, 8, 0};
        for (int i = 0; i < due.length; i++) {
            CHECK.is("i = " + i, judge.around(0, 11, i), due[i]);
        }
        says("BAD: also i; NOT.");
        CHECK.is("i is -1", judge.around(0, 11, -1), BAD);
        CHECK.is("i is n", judge.around(0, 4, 4), BAD);
        CHECK.is("no such POINT", judge.around(11, 11, 0), BAD);
        judge.of(10, NONE);
        CHECK.is("NOT", judge.around(0, 11, 0), NOT);
        CHECK.is("BAD, then NOT", judge.around(0, 11, 11), BAD);
    }

    private static void order() {
        says("`int order(int n, int i)`: The first n PLACES by X, then by Y, then by PLACES: PLACE i of these.");
        OrderJudge judge = Judges.with(5, 1, -2, 8, 5, -3, 0, 0, -2, 7, 5, 1);
        Judges.row(judge, 0, 1, 2, 3, 4, 5);
        int[] due = {4, 1, 3, 2, 0, 5};
        for (int i = 0; i < due.length; i++) {
            CHECK.is("i = " + i, judge.order(6, i), due[i]);
        }
        CHECK.is("of the first two", judge.order(2, 0), 1);
        says("BAD: also i; NOT.");
        CHECK.is("i is -1", judge.order(6, -1), BAD);
        CHECK.is("i is n", judge.order(3, 3), BAD);
        judge.of(0, NONE);
        CHECK.is("NOT", judge.order(6, 0), NOT);
        CHECK.is("BAD, then NOT", judge.order(6, 6), BAD);
    }

    private static void area() {
        says("`long area(int n, long by) throws ArithmeticException`: The sum of X of an EDGE's beginning times Y of its end, less X of its "
            + "end times Y of its beginning, for all EDGES of the first n PLACES, by another number, towards 0.");
        OrderJudge judge = Judges.withParts(0, 0, 1, 5, 0, 12, 0, 3, 12, -800, 800, 1);
        Judges.row(judge, 0, 1, 2);
        CHECK.is("by 1", judge.area(3, 1), 15);
        CHECK.is("by 2", judge.area(3, 2), 7);
        CHECK.is("by -2", judge.area(3, -2), -7);
        CHECK.is("by 16", judge.area(3, 16), 0);
        CHECK.is("one PLACE", judge.area(1, 1), 0);
        CHECK.is("two PLACES: there and back", judge.area(2, 1), 0);
        Judges.row(judge, 2, 1, 0);
        CHECK.is("to the right", judge.area(3, 1), -15);
        CHECK.is("to the right, by 2", judge.area(3, 2), -7);
        CHECK.is("to the right, by the least number", judge.area(3, Long.MIN_VALUE), 0);
        says("BAD, NOT: 0; ArithmeticException: by is 0.");
        CHECK.is("BAD", judge.area(4, 1), 0);
        CHECK.raises("by 0", ArithmeticException.class, () -> judge.area(3, 0));
        CHECK.is("BAD, by 0", judge.area(4, 0), 0);
        judge.of(2, NONE);
        CHECK.is("NOT", judge.area(3, 1), 0);
        CHECK.is("NOT, by 0", judge.area(3, 0), 0);
    }

    private static void line() {
        says("`int line(int a, int b)`: A LINE through two POINTS: its number.");
        OrderJudge judge = Judges.with(0, 0, 1, 2, 0, 0);
        CHECK.is("the first", judge.line(0, 1), 0);
        CHECK.is("the second, the same again", judge.line(1, 2), 1);
        says("BAD; NOT: they are EQUAL; FULL.");
        CHECK.is("BAD", judge.line(0, 3), BAD);
        CHECK.is("NOT", judge.line(0, 2), NOT);
        CHECK.is("of one POINT", judge.line(1, 1), NOT);
        for (int k = 2; k < 12; k++) {
            CHECK.is("refused ones took no number", judge.line(0, 1), k);
        }
        CHECK.is("FULL", judge.line(0, 1), FULL);
        CHECK.is("NOT, then FULL", judge.line(0, 2), NOT);
        CHECK.is("BAD, then FULL", judge.line(0, 3), BAD);
    }

    private static void lines() {
        says("`int lines(int n, int what)`: Of the first n LINES (0 and more): what = 0 how many are DIFFERENT, 1 MEETS, 2 CELLS, 3 PIECES, 4 "
            + "CELLS that do not go on for ever, 5 how many LINES go through the MEET where most of the DIFFERENT ones do (0: no MEET).");
        // Three through (0, 0), one of them told twice; a triangle by x = 3; then y = 5, far from where they meet.
        OrderJudge judge = Judges.with(0, 0, 3, 3, -3, 3, 3, -1, 3, 7, 4, 0, 0, 5, 6, 5);
        judge.line(0, 1);
        judge.line(0, 2);
        judge.line(1, 0);
        judge.line(3, 4);
        judge.line(5, 0);
        judge.line(6, 7);
        expectLines(judge, 0, 0, 0, 1, 0, 0, 0);
        expectLines(judge, 3, 2, 1, 4, 4, 0, 2);
        expectLines(judge, 4, 3, 3, 7, 9, 1, 2);
        expectLines(judge, 5, 4, 4, 10, 13, 2, 3);
        expectLines(judge, 6, 5, 7, 14, 20, 4, 3);
        says("BAD.");
        CHECK.is("n is -1", judge.lines(-1, 0), BAD);
        CHECK.is("n is 7", judge.lines(7, 0), BAD);
        CHECK.is("what is -1", judge.lines(0, -1), BAD);
        CHECK.is("what is 6", judge.lines(6, 6), BAD);
    }

    private static void count() {
        says("`int count(int what)`: 0 POINTS, 1 PLACES, 2 LINES, 3 whether THE FILTER is on.");
        OrderJudge judge = Judges.with(0, 0, 1, 1, 2, 2);
        judge.size(7);
        judge.line(0, 1);
        CHECK.is("POINTS", judge.count(0), 3);
        CHECK.is("PLACES", judge.count(1), 7);
        CHECK.is("LINES", judge.count(2), 1);
        CHECK.is("on", judge.count(3), 1);
        judge.filter(false);
        CHECK.is("off", judge.count(3), 0);
        says("BAD.");
        CHECK.is("4", judge.count(4), BAD);
        CHECK.is("-1", judge.count(-1), BAD);
    }

    private static void notPromised() {
        says("How the state is held inside the object is free, as are the speed of each call, the text of toString and the behaviour of "
            + "equals and hashCode.");
        says("Use of one object from several threads at once is not promised to be safe.");
        says("Nothing is promised beyond the answers and state changes described above, and nothing about an object after its 512th call.");
    }
}
