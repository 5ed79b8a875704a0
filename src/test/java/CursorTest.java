/** Promise 6: go. */
final class CursorTest {
    public static void main(String[] args) {
        going();
        marking();
        refusing();
        Check.end();
    }

    private static void going() {
        DraftTree x = Check.withText("abcde");
        x.go(0, false);
        Check.same("cursor at the begin", Check.cursor(x), 0);
        x.go(5, false);
        Check.same("cursor at the end", Check.cursor(x), 5);
        x.go(2, false);
        Check.same("mark without keep", Check.mark(x), -1);
        Check.same("states", x.figure(1), 2);
    }

    private static void marking() {
        DraftTree x = Check.withText("abcde");
        x.go(3, true);
        Check.same("mark where the cursor was", Check.mark(x), 5);
        x.go(1, true);
        Check.same("mark stays", Check.mark(x), 5);
        Check.same("cursor moves", Check.cursor(x), 1);
        x.go(5, true);
        Check.same("mark where the cursor is", Check.mark(x), -1);
        x.go(5, true);
        Check.same("go to where it is", Check.mark(x), -1);
        x.go(0, true);
        Check.same("a new mark", Check.mark(x), 5);
        x.go(4, false);
        Check.same("mark gone", Check.mark(x), -1);
        x.go(2, true);
        Check.same("mark from there", Check.mark(x), 4);
    }

    private static void refusing() {
        DraftTree x = Check.withText("abcde");
        x.go(2, true);
        int[] places = {-1, 6, Integer.MIN_VALUE, Integer.MAX_VALUE};
        for (int place : places) {
            Check.refused(x, "go to " + place, Check.BOUNDS, () -> x.go(place, true));
            Check.refused(x, "go to " + place, Check.BOUNDS, () -> x.go(place, false));
        }
        DraftTree empty = new DraftTree();
        empty.go(0, true);
        Check.same("mark in an empty text", Check.mark(empty), -1);
        Check.refused(empty, "go to 1 in an empty text", Check.BOUNDS, () -> empty.go(1, false));
    }
}
