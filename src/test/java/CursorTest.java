/** Promise 6: go; places, the mark, and the selection between. */
final class CursorTest {
    public static void main(String[] args) {
        firstAndLastPlace();
        noSuchPlace();
        placesOfTheTextOnly();
        keeping();
        markWhereTheCursorIs();
        notKeeping();
        noEdit();
        Check.end();
    }

    private static void firstAndLastPlace() {
        Run run = new Run().text("abcde");
        run.go(0).answers("done").sees("abcde", 1, 2, 0, -1, 0);
        run.go(5).answers("done").sees("abcde", 1, 2, 5, -1, 0);
        run.keep(0).answers("done").sees("abcde", 1, 2, 0, 5, 0);
        run.go(0).keep(5).answers("done").sees("abcde", 1, 2, 5, 0, 0);
        new Run().go(0).answers("done").sees("", 0, 1, 0, -1, 0);
        new Run().keep(0).answers("done").sees("", 0, 1, 0, -1, 0);
        new Run().text("a".repeat(160)).go(3).go(160).answers("done").figure(2).answers(160);
    }

    private static void noSuchPlace() {
        Run[] runs = {new Run().text("abcde").go(3), new Run().text("abcde").keep(2), new Run().text("abcde").go(0).keep(5)};
        int[] places = {-1, 6, Integer.MIN_VALUE, Integer.MAX_VALUE};
        for (Run run : runs) {
            for (int place : places) {
                run.go(place).refused(Check.BOUNDS);
                run.keep(place).refused(Check.BOUNDS);
            }
        }
        new Run().go(1).refused(Check.BOUNDS);
        new Run().keep(1).refused(Check.BOUNDS);
        new Run().go(-1).refused(Check.BOUNDS);
        new Run().text("a".repeat(160)).go(161).refused(Check.BOUNDS);
    }

    /** The slip and the texts of other states do not count. */
    private static void placesOfTheTextOnly() {
        new Run().text("ab").type("cd").go(3).refused(Check.BOUNDS);
        new Run().text("abcde").undo().go(1).refused(Check.BOUNDS);
        new Run().text("abcde").erase(-2).go(4).refused(Check.BOUNDS);
        new Run().text("abcde").erase(-2).undo().go(5).answers("done");
    }

    private static void keeping() {
        Run run = new Run().text("abcde").keep(3);
        run.sees("abcde", 1, 2, 3, 5, 0);
        run.keep(1).sees("abcde", 1, 2, 1, 5, 0);
        run.keep(1).keep(4).sees("abcde", 1, 2, 4, 5, 0);
        run.keep(3).sees("abcde", 1, 2, 3, 5, 0);
        run.go(2).keep(4).sees("abcde", 1, 2, 4, 2, 0);
        run.go(2).keep(0).sees("abcde", 1, 2, 0, 2, 0);
        run.go(0).keep(4).keep(2).sees("abcde", 1, 2, 2, 0, 0);
    }

    private static void markWhereTheCursorIs() {
        Run run = new Run().text("abcde").go(2);
        run.keep(2).sees("abcde", 1, 2, 2, -1, 0);
        run.keep(4).keep(2).sees("abcde", 1, 2, 2, -1, 0);
        run.keep(4).keep(2).keep(3).sees("abcde", 1, 2, 3, 2, 0);
        run.keep(4).keep(2).type("X").insert().sees("abXcde", 2, 3, 3, -1, 0);
        run.keep(3).keep(1).sees("abcde", 1, 2, 1, 2, 0);
    }

    private static void notKeeping() {
        Run run = new Run().text("abcde").keep(2);
        run.go(2).sees("abcde", 1, 2, 2, -1, 0);
        run.go(5).sees("abcde", 1, 2, 5, -1, 0);
        run.go(4).sees("abcde", 1, 2, 4, -1, 0);
        run.go(4).type("X").insert().sees("abcdXe", 2, 3, 5, -1, 0);
    }

    private static void noEdit() {
        new Run().text("abcde").states(40).go(1).answers("done").figure(1).answers(40);
        new Run().text("abcde").pattern("c").keep(1).find(0).answers(2);
        new Run().text("abcde").type("xy").keep(1).sees("abcde", 1, 2, 1, 5, 2);
    }
}
