/** Promises 7 to 9: very many patterns, whether they are one, their fault and all their matches. */
final class GrammarTest {
    private static final String SIGNS = "ab(|)*[]^-\\?$.+\n";
    private static final String TEXT = "ab\naab-a^\n\nb]a(aa";

    public static void main(String[] args) {
        allUpTo(4);
        longOnes();
        Check.end();
    }

    private static void allUpTo(int size) {
        DraftTree x = Check.withText(TEXT);
        String signs = SIGNS.substring(0, 13);
        int count = 1;
        for (int s = 0; s <= size; s++) {
            for (int number = 0; number < count; number++) {
                StringBuilder pattern = new StringBuilder();
                for (int k = 0, left = number; k < s; k++, left /= signs.length()) {
                    pattern.append(signs.charAt(left % signs.length()));
                }
                compare(x, pattern.toString());
            }
            count *= signs.length();
        }
    }

    private static void longOnes() {
        DraftTree x = Check.withText(TEXT);
        long seed = 4711;
        for (int turn = 0; turn < 6000; turn++) {
            StringBuilder pattern = new StringBuilder();
            for (int k = 0; k < 5 + turn % 20; k++) {
                seed = seed * 6364136223846793005L + 1442695040888963407L;
                pattern.append(SIGNS.charAt((int) ((seed >>> 33) % SIGNS.length())));
            }
            compare(x, pattern.toString());
        }
    }

    private static void compare(DraftTree x, String pattern) {
        Grammar.Fit due = Grammar.pattern(pattern);
        x.wipe();
        Check.type(x, pattern);
        boolean read = true;
        try {
            x.compile();
        } catch (IllegalArgumentException e) {
            read = false;
        }
        Check.same(pattern + " is a pattern", read, due != null);
        Check.same("fault of " + pattern, x.fault(), due != null ? -1 : Grammar.longestBeginning(pattern));
        if (due != null && read) {
            compareMatches(x, pattern, due);
        }
    }

    private static void compareMatches(DraftTree x, String pattern, Grammar.Fit due) {
        int start = -1;
        int end = -1;
        for (int place = TEXT.length(); place >= 0; place--) {
            int reached = due.ends(TEXT, place).length() - 1;
            if (reached > place) {
                start = place;
                end = reached;
            }
            String found = start < 0 ? "none" : start + " to " + end;
            Check.same("match of " + pattern + " from " + place, match(x, place), found);
        }
    }

    private static String match(DraftTree x, int place) {
        try {
            int start = x.find(place);
            return start + " to " + Check.cursor(x);
        } catch (java.util.NoSuchElementException e) {
            return "none";
        }
    }
}
