/** Promises 14 to 17: length, at, line, figure. */
final class ReadingTest {
    private static final int[] FAR_NUMBERS = {-1, -2, Integer.MIN_VALUE, Integer.MAX_VALUE};

    public static void main(String[] args) {
        lengths();
        firstAndLastCharacter();
        noSuchCharacter();
        lines("", 0);
        lines("abc", 0);
        lines("\n", 0, 1);
        lines("a\n", 0, 2);
        lines("\na", 0, 1);
        lines("ab\n\ncde\n", 0, 3, 4, 8);
        lines("\n\nx", 0, 1, 2);
        manyLines();
        noSuchLine();
        noSuchQuestion();
        theExceptionNamedFirst();
        figures();
        noSuchFigure();
        Check.end();
    }

    private static void lengths() {
        new Run().length().answers(0).changesNothing();
        new Run().type("abc").length().answers(0);
        new Run().text("a").length().answers(1).changesNothing();
        new Run().text("abc").type("xy").length().answers(3);
        new Run().text("abc").undo().length().answers(0);
        new Run().text("abc").erase(-1).length().answers(2);
        new Run().text("z".repeat(159)).length().answers(159);
        new Run().text("z".repeat(160)).length().answers(160);
    }

    private static void firstAndLastCharacter() {
        Run run = new Run().text("a\n~").type("xy");
        run.at(0).answers('a').changesNothing();
        run.at(1).answers('\n');
        run.at(2).answers('~');
        new Run().text(" ").at(0).answers(' ');
        new Run().text("a".repeat(159) + "b").at(159).answers('b');
        new Run().text("abc").text("d").undo().at(2).answers('c');
        new Run().text("abc").go(0).text("d").at(0).answers('d');
    }

    private static void noSuchCharacter() {
        Run run = new Run().text("a\n~").type("xy");
        run.at(3).refused(Check.BOUNDS);
        for (int p : FAR_NUMBERS) {
            run.at(p).refused(Check.BOUNDS);
            new Run().at(p).refused(Check.BOUNDS);
        }
        new Run().at(0).refused(Check.BOUNDS);
        new Run().type("a").at(0).refused(Check.BOUNDS);
        new Run().text("abc").undo().at(0).refused(Check.BOUNDS);
        new Run().text("abc").text("d").undo().at(3).refused(Check.BOUNDS);
        new Run().text("a".repeat(160)).at(160).refused(Check.BOUNDS);
    }

    private static void lines(String text, int... begins) {
        Run run = new Run().text(text).type("\n");
        String[] parts = text.split("\n", -1);
        run.line(0, 0).answers(begins.length).changesNothing();
        for (int k = 0; k < begins.length; k++) {
            run.line(2, k).answers(begins[k]);
            run.line(3, k).answers(parts[k].length());
        }
        for (int p = 0; p <= text.length(); p++) {
            run.line(1, p).answers(text.substring(0, p).split("\n", -1).length - 1);
        }
        run.line(1, text.length() + 1).refused(Check.BOUNDS);
        run.line(2, begins.length).refused(Check.BOUNDS);
        run.line(3, begins.length).refused(Check.BOUNDS);
        // There is no p to ask about where the number of lines is asked for.
        for (int p : FAR_NUMBERS) {
            run.line(0, p).answers(begins.length);
        }
    }

    private static void manyLines() {
        Run breaks = new Run().text("\n".repeat(160));
        breaks.line(0, 0).answers(161);
        breaks.line(1, 160).answers(160);
        breaks.line(1, 161).refused(Check.BOUNDS);
        breaks.line(2, 160).answers(160);
        breaks.line(3, 160).answers(0);
        breaks.line(2, 161).refused(Check.BOUNDS);
        breaks.line(3, 161).refused(Check.BOUNDS);
        Run one = new Run().text("a".repeat(160));
        one.line(0, 0).answers(1);
        one.line(3, 0).answers(160);
        one.line(1, 160).answers(0);
        one.line(2, 1).refused(Check.BOUNDS);
    }

    private static void noSuchLine() {
        Run[] runs = {new Run(), new Run().text("ab\ncd").keep(1).type("x")};
        for (Run run : runs) {
            for (int p : FAR_NUMBERS) {
                run.line(1, p).refused(Check.BOUNDS);
                run.line(2, p).refused(Check.BOUNDS);
                run.line(3, p).refused(Check.BOUNDS);
            }
        }
        new Run().text("a\nb").undo().line(2, 1).refused(Check.BOUNDS);
        new Run().text("a\nb").undo().line(1, 1).refused(Check.BOUNDS);
    }

    private static void noSuchQuestion() {
        Run run = new Run().text("ab\ncd").keep(1).type("x");
        run.line(0, 1).answers(2);
        run.line(3, 1).answers(2);
        run.line(4, 1).refused(Check.ARGUMENT);
        for (int what : FAR_NUMBERS) {
            run.line(what, 1).refused(Check.ARGUMENT);
            new Run().line(what, 0).refused(Check.ARGUMENT);
        }
    }

    private static void theExceptionNamedFirst() {
        Run run = new Run().text("ab\ncd");
        for (int p : FAR_NUMBERS) {
            run.line(4, p).refused(Check.ARGUMENT);
            run.line(-1, p).refused(Check.ARGUMENT);
        }
        run.line(4, 6).refused(Check.ARGUMENT);
    }

    private static void figures() {
        Run run = new Run().text("abcd").type("xyz").keep(1);
        int[] due = {1, 2, 1, 4, 3};
        int[] later = {0, 2, 0, -1, 3};
        int[] first = {0, 1, 0, -1, 0};
        for (int k = 0; k < due.length; k++) {
            run.figure(k).answers(due[k]).changesNothing();
            run.undo().figure(k).answers(later[k]);
            new Run().figure(k).answers(first[k]);
        }
        run.go(0).keep(4).figure(3).answers(0);
        run.type("x".repeat(24)).figure(4).answers(24);
        new Run().states(39).figure(1).answers(39);
        new Run().states(40).figure(1).answers(40);
        new Run().states(40).jump(3).figure(0).answers(3);
    }

    private static void noSuchFigure() {
        Run run = new Run().text("abcd").type("xyz").keep(1);
        run.figure(5).refused(Check.ARGUMENT);
        for (int k : FAR_NUMBERS) {
            run.figure(k).refused(Check.ARGUMENT);
        }
    }
}
