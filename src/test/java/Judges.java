/** Makes objects with POINTS and a ROW in few words. */
final class Judges {
    private Judges() {
    }

    /** Points by whole numbers x, y, x, y and so on, with down 1. */
    static OrderJudge with(long... coordinates) {
        OrderJudge judge = new OrderJudge();
        for (int i = 0; i + 1 < coordinates.length; i += 2) {
            int number = judge.point(coordinates[i], coordinates[i + 1], 1);
            if (number != i / 2) {
                throw new IllegalStateException("the point was refused");
            }
        }
        return judge;
    }

    /** Points by x, y, down, x, y, down and so on. */
    static OrderJudge withParts(long... numbers) {
        OrderJudge judge = new OrderJudge();
        for (int i = 0; i + 2 < numbers.length; i += 3) {
            int number = judge.point(numbers[i], numbers[i + 1], numbers[i + 2]);
            if (number != i / 3) {
                throw new IllegalStateException("the point was refused");
            }
        }
        return judge;
    }

    /** The row gets just these POINTS (or NONE). */
    static void row(OrderJudge judge, int... points) {
        judge.size(points.length);
        for (int i = 0; i < points.length; i++) {
            judge.of(i, points[i]);
        }
    }
}
