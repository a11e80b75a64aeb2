/** Promises 21 and 22: line, lines. */
public final class LinesTest {
    private static final Check CHECK = new Check("LinesTest");

    public static void main(String[] args) {
        lineRefusals();
        few();
        parallels();
        pencil();
        grid();
        firstOnes();
        equalOnesInAMeet();
        farApart();
        wrongNumbers();
        CHECK.end();
    }

    private static void lineRefusals() {
        OrderJudge judge = Judges.with(0, 0, 1, 0, 0, 0, 5, 5);
        CHECK.is("EQUAL ones", judge.line(0, 2), OrderJudge.NOT);
        CHECK.is("one POINT twice", judge.line(1, 1), OrderJudge.NOT);
        for (int wrong : new int[] {4, -1, Integer.MAX_VALUE, Integer.MIN_VALUE}) {
            CHECK.is("no such a", judge.line(wrong, 0), OrderJudge.BAD);
            CHECK.is("no such b", judge.line(0, wrong), OrderJudge.BAD);
        }
        CHECK.is("none was made", judge.count(2), 0);
        for (int i = 0; i < 12; i++) {
            CHECK.is("line " + i, judge.line(0, i % 2 == 0 ? 1 : 3), i);
        }
        CHECK.is("the 13th", judge.line(0, 1), OrderJudge.FULL);
        CHECK.is("NOT is told before FULL", judge.line(0, 2), OrderJudge.NOT);
        CHECK.is("BAD is told before FULL", judge.line(0, 4), OrderJudge.BAD);
        CHECK.is("still 12", judge.count(2), 12);
        expect("12 LINES, two of them DIFFERENT", judge, 12, 2, 1, 4, 4, 0, 2);
    }

    private static void few() {
        OrderJudge judge = Judges.with(0, 0, 4, 0, 0, 4);
        expect("none", judge, 0, 0, 0, 1, 0, 0, 0);
        judge.line(0, 1);
        expect("one", judge, 1, 1, 0, 2, 1, 0, 0);
        judge.line(1, 2);
        expect("two", judge, 2, 2, 1, 4, 4, 0, 2);
        judge.line(2, 0);
        expect("a triangle", judge, 3, 3, 3, 7, 9, 1, 2);
        judge.line(0, 2);
        judge.line(2, 1);
        expect("the same again, backwards", judge, 5, 3, 3, 7, 9, 1, 2);
    }

    private static void parallels() {
        OrderJudge judge = Judges.with(0, 0, 2, 1, 0, 1, 2, 2, 4, 4, 8, 6, 4, 2, 0, 5);
        judge.line(0, 1);
        judge.line(2, 3);
        judge.line(5, 4);
        judge.line(0, 6);
        expect("three parallels, one of them twice", judge, 4, 3, 0, 4, 3, 0, 0);
        judge.line(0, 7);
        expect("one across", judge, 5, 4, 3, 8, 10, 0, 2);
    }

    private static void pencil() {
        OrderJudge judge = Judges.with(1, 2, 5, 2, 5, 3, 4, 7, 1, 8, -3, 5, -800, 799);
        for (int i = 1; i < 7; i++) {
            judge.line(0, i);
        }
        expect("six through one point", judge, 6, 6, 1, 12, 12, 0, 6);
        judge.line(1, 2);
        // x = 5: it meets five of the six apart from their MEET, as one of them is parallel to it.
        expect("and one beside", judge, 7, 7, 6, 18, 23, 4, 6);
    }

    private static void grid() {
        OrderJudge judge = Judges.with(0, 0, 1, 1, 2, 2, 3, 3, 1, 0, 2, 0, 3, 0, 0, 1, 0, 2, 0, 3);
        judge.line(0, 4);
        judge.line(1, 7);
        judge.line(2, 8);
        judge.line(0, 7);
        judge.line(1, 4);
        judge.line(2, 5);
        expect("three by three", judge, 6, 6, 9, 16, 24, 4, 2);
        judge.line(0, 3);
        expect("with a diagonal", judge, 7, 7, 9, 20, 28, 6, 3);
    }

    private static void firstOnes() {
        OrderJudge judge = Judges.with(0, 0, 4, 0, 0, 4, 4, 4);
        judge.line(0, 1);
        judge.line(1, 0);
        judge.line(2, 3);
        judge.line(0, 3);
        expect("the first one", judge, 1, 1, 0, 2, 1, 0, 0);
        expect("the first two", judge, 2, 1, 0, 2, 1, 0, 0);
        expect("the first three", judge, 3, 2, 0, 3, 2, 0, 0);
        expect("all four", judge, 4, 3, 2, 6, 7, 0, 2);
        expect("the first two again", judge, 2, 1, 0, 2, 1, 0, 0);
    }

    // The document's own run asks 2 of a triangle with one LINE told twice, so EQUAL ones count once.
    private static void equalOnesInAMeet() {
        OrderJudge judge = Judges.with(0, 0, 4, 0, 0, 4, 4, 4, 0, 9);
        judge.line(0, 1);
        judge.line(0, 2);
        judge.line(0, 3);
        judge.line(3, 0);
        judge.line(4, 1);
        expect("three DIFFERENT ones in a MEET", judge, 5, 4, 4, 10, 13, 2, 3);
    }

    // MEETS that differ by less than what floats tell apart.
    private static void farApart() {
        OrderJudge judge = Judges.with(-800, -799, 800, 800, -800, -800, 800, 799, -799, -800, 799, 800);
        judge.line(0, 1);
        judge.line(2, 3);
        judge.line(4, 5);
        expect("nearly one line", judge, 3, 3, 2, 6, 7, 0, 2);
        OrderJudge thin = new OrderJudge();
        thin.point(-800, 0, 1);
        thin.point(800, 1, 12);
        thin.point(800, 0, 1);
        thin.point(-800, 1, 12);
        thin.point(0, 800, 1);
        thin.point(0, -800, 1);
        thin.line(0, 1);
        thin.line(2, 3);
        thin.line(4, 5);
        expect("through one point by symmetry", thin, 3, 3, 1, 6, 6, 0, 3);
        thin.point(1, 800, 12);
        thin.line(5, 6);
        expect("and a fourth that just misses it", thin, 4, 4, 4, 10, 13, 2, 3);
    }

    private static void wrongNumbers() {
        OrderJudge judge = Judges.with(0, 0, 4, 0);
        judge.line(0, 1);
        for (int what = 0; what < 6; what++) {
            CHECK.is("more than there are", judge.lines(2, what), OrderJudge.BAD);
            CHECK.is("below 0", judge.lines(-1, what), OrderJudge.BAD);
            CHECK.is("the most", judge.lines(Integer.MAX_VALUE, what), OrderJudge.BAD);
        }
        for (int what : new int[] {6, -1, Integer.MAX_VALUE, Integer.MIN_VALUE}) {
            CHECK.is("no such what", judge.lines(1, what), OrderJudge.BAD);
        }
    }

    private static void expect(String name, OrderJudge judge, int n, int... due) {
        for (int what = 0; what < due.length; what++) {
            CHECK.is(name + ", what = " + what, judge.lines(n, what), due[what]);
        }
    }
}
