/** What an object answers from now on, as one text: two objects that differ in what they hold differ in it. */
final class AllAnswers {
    private final OrderJudge judge;
    private final StringBuilder text = new StringBuilder();

    private AllAnswers(OrderJudge judge) {
        this.judge = judge;
    }

    /** Uses the object up: at the end the ROW, THE FILTER and more are changed. It takes some 360 calls at most. */
    static String of(OrderJudge judge) {
        AllAnswers answers = new AllAnswers(judge);
        answers.counts();
        answers.places();
        answers.lines();
        answers.points();
        answers.signs();
        answers.additions();
        return answers.text.toString();
    }

    private void tell(String what, Check.Call call) {
        text.append(what).append(' ');
        try {
            text.append(call.answer());
        } catch (RuntimeException e) {
            text.append(e.getClass().getSimpleName());
        }
        text.append('\n');
    }

    private void counts() {
        for (int what = 0; what < 4; what++) {
            int told = what;
            tell("count " + what, () -> judge.count(told));
        }
        decided();
    }

    private void decided() {
        for (int what = 0; what < 3; what++) {
            int told = what;
            tell("decided " + what, () -> judge.decided(told));
        }
    }

    private void places() {
        int many = judge.count(1);
        for (int i = 0; i <= many; i++) {
            int place = i;
            tell("X at " + i, () -> judge.at(place, 0));
            tell("Y at " + i, () -> judge.at(place, 1));
            tell("number at " + i, () -> judge.at(place, 2));
        }
        tell("convex", () -> judge.convex(many));
        tell("winding", () -> judge.winding(many, 0));
        tell("area", () -> judge.area(many, 1));
    }

    private void lines() {
        int many = judge.count(2);
        for (int n = 0; n <= many; n++) {
            for (int what = 0; what < 6; what++) {
                int first = n;
                int told = what;
                tell("of " + n + " lines " + what, () -> judge.lines(first, told));
            }
        }
    }

    private void points() {
        int many = judge.count(0);
        tell("size", () -> judge.size(1));
        for (int p = 0; p < many; p++) {
            int point = p;
            tell("before " + p, () -> judge.of(0, point));
            tell("X of " + p, () -> judge.at(0, 0));
            tell("Y of " + p, () -> judge.at(0, 1));
        }
    }

    private void signs() {
        tell("side", () -> judge.side(0, 1, 2));
        tell("circle", () -> judge.circle(0, 1, 2, 3));
        decided();
    }

    private void additions() {
        tell("point", () -> judge.point(1, 2, 3));
        tell("line", () -> judge.line(0, 1));
        tell("filter", () -> judge.filter(true));
    }
}
