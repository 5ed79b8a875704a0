/** Promises 14 to 17: length, at, line, figure. */
final class ReadingTest {
    private static final int[] WRONG_NUMBERS = {-1, Integer.MIN_VALUE, Integer.MAX_VALUE};

    public static void main(String[] args) {
        lengthAndAt();
        lines("", 0);
        lines("abc", 0);
        lines("\n", 0, 1);
        lines("ab\n\ncde\n", 0, 3, 4, 8);
        lines("\n\nx", 0, 1, 2);
        figures();
        Check.end();
    }

    private static void lengthAndAt() {
        DraftTree x = new DraftTree();
        Check.same("length of an empty text", x.length(), 0);
        Check.refused(x, "at 0 of an empty text", Check.BOUNDS, () -> x.at(0));
        DraftTree y = Check.withText("a\n~");
        Check.type(y, "xy");
        Check.same("length does not count the slip", y.length(), 3);
        Check.same("at 0", y.at(0), 'a');
        Check.same("at 1", y.at(1), '\n');
        Check.same("at 2", y.at(2), '~');
        Check.refused(y, "at the end", Check.BOUNDS, () -> y.at(3));
        for (int p : WRONG_NUMBERS) {
            Check.refused(y, "at " + p, Check.BOUNDS, () -> y.at(p));
        }
        Check.same("length of a full text", Check.withText(Check.times("z", 160)).length(), 160);
    }

    private static void lines(String text, int... begins) {
        DraftTree x = Check.withText(text);
        Check.same("number of lines", x.line(0, 0), begins.length);
        Check.same("number of lines, any p", x.line(0, -7), begins.length);
        String[] parts = text.split("\n", -1);
        for (int k = 0; k < begins.length; k++) {
            Check.same("begin of line " + k, x.line(2, k), begins[k]);
            Check.same("size of line " + k, x.line(3, k), parts[k].length());
        }
        for (int p = 0; p <= text.length(); p++) {
            int due = text.substring(0, p).split("\n", -1).length - 1;
            Check.same("line of place " + p, x.line(1, p), due);
        }
        refusedLines(x, text.length() + 1, begins.length);
    }

    private static void refusedLines(DraftTree x, int noPlace, int noLine) {
        Check.refused(x, "line of no place", Check.BOUNDS, () -> x.line(1, noPlace));
        Check.refused(x, "begin of no line", Check.BOUNDS, () -> x.line(2, noLine));
        Check.refused(x, "size of no line", Check.BOUNDS, () -> x.line(3, noLine));
        for (int p : WRONG_NUMBERS) {
            for (int what = 1; what <= 3; what++) {
                int asked = what;
                Check.refused(x, "line " + what + " of " + p, Check.BOUNDS, () -> x.line(asked, p));
            }
            Check.refused(x, "line, what " + p, Check.ARGUMENT, () -> x.line(p, 0));
            Check.refused(x, "line, what " + p + " and no place", Check.ARGUMENT, () -> x.line(p, 999));
        }
        Check.refused(x, "line, what 4", Check.ARGUMENT, () -> x.line(4, 999));
    }

    private static void figures() {
        DraftTree x = Check.withText("abcd");
        Check.type(x, "xyz");
        x.go(1, true);
        int[] due = {1, 2, 1, 4, 3};
        for (int k = 0; k < due.length; k++) {
            Check.same("figure " + k, x.figure(k), due[k]);
        }
        x.undo();
        int[] later = {0, 2, 0, -1, 3};
        for (int k = 0; k < later.length; k++) {
            Check.same("figure " + k + " after undo", x.figure(k), later[k]);
        }
        Check.refused(x, "figure 5", Check.ARGUMENT, () -> x.figure(5));
        for (int k : WRONG_NUMBERS) {
            Check.refused(x, "figure " + k, Check.ARGUMENT, () -> x.figure(k));
        }
    }
}
