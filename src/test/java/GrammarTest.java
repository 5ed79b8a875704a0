/** Promises 7 to 9: very many patterns, whether they are one, their fault and all their matches. */
final class GrammarTest {
    private static final String SIGNS = "ab(|)*[]^-\\?$.+\n";
    private static final String TEXT = "ab\naab-a^\n\nb]a(aa";

    public static void main(String[] args) {
        allUpTo(4);
        setsUpTo(5);
        longOnes();
        deepOnes();
        Check.end();
    }

    private static void allUpTo(int size) {
        all(SIGNS.substring(0, 13), size, "", "");
    }

    private static void setsUpTo(int size) {
        all("-ab^(", size, "[", "]");
        all("-ab^", size, "[^", "]");
    }

    private static void all(String signs, int size, String before, String behind) {
        int count = 1;
        for (int s = 0; s <= size; s++) {
            for (int number = 0; number < count; number++) {
                StringBuilder pattern = new StringBuilder(before);
                for (int k = 0, left = number; k < s; k++, left /= signs.length()) {
                    pattern.append(signs.charAt(left % signs.length()));
                }
                compare(pattern.append(behind).toString());
            }
            count *= signs.length();
        }
    }

    private static void longOnes() {
        Dice dice = new Dice(4711);
        for (int turn = 0; turn < 6000; turn++) {
            compare(dice.row(SIGNS, 5 + turn % 20));
        }
    }

    /** Groups in one another, round about the eight that there may be. */
    private static void deepOnes() {
        Dice dice = new Dice(815);
        for (int turn = 0; turn < 400; turn++) {
            String pattern = "(".repeat(6) + dice.row("((()a|", 3 + turn % 8) + ")".repeat(turn % 11);
            compare(pattern.substring(0, Math.min(24, pattern.length())));
        }
    }

    private static void compare(String pattern) {
        Grammar.Fit due = Grammar.pattern(pattern);
        DraftTree x = new Run().text(TEXT).type(pattern).make();
        boolean read = true;
        try {
            x.compile();
        } catch (IllegalArgumentException e) {
            read = false;
        }
        Check.same(pattern + " is a pattern", read, due != null);
        Check.same("fault of " + pattern, x.fault(), due != null ? -1 : Grammar.longestBeginning(pattern));
        if (due != null && read) {
            compareMatches(x, pattern, due);
        }
    }

    private static void compareMatches(DraftTree x, String pattern, Grammar.Fit due) {
        int start = -1;
        int end = -1;
        for (int place = TEXT.length(); place >= 0; place--) {
            int reached = due.ends(TEXT, place).length() - 1;
            if (reached > place) {
                start = place;
                end = reached;
            }
            String found = start < 0 ? "none" : start + " to " + end;
            Check.same("match of " + pattern + " from " + place, match(x, place), found);
        }
    }

    private static String match(DraftTree x, int place) {
        try {
            int start = x.find(place);
            return start + " to " + x.figure(2);
        } catch (java.util.NoSuchElementException e) {
            return "none";
        }
    }
}
