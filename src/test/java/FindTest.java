/** Promise 9: find, and what a pattern fits. */
final class FindTest {
    /** Text, pattern, place, then i and j of the match (no match: -1, -1). */
    private static final Object[][] MATCHES = {
        {"abc", "b", 0, 1, 2}, {"abc", "b", 2, -1, -1}, {"abc", "", 0, -1, -1}, {"abc", "()|x*", 0, -1, -1},
        {"a.c", "\\.", 0, 1, 2}, {"a\nb", ".", 1, 2, 3}, {"a\nb", "a.b", 0, -1, -1}, {"a\nb", "a\nb", 0, 0, 3},
        {"a\nb", "[^a]", 0, 1, 2}, {"a\nb", "\\\n", 0, 1, 2}, {"a\nb", "[\n- ]", 0, 1, 2},
        {"aaa", "a|aa", 0, 0, 2}, {"aaa", "aa|a", 1, 1, 3}, {"aaab", "a*", 0, 0, 3}, {"baaa", "a*", 0, 1, 4},
        {"abab", "(ab)*a?", 0, 0, 4}, {"abab", "(ab|aba)", 0, 0, 3}, {"xaab", "a+b", 0, 1, 4}, {"xb", "a+b", 0, -1, -1},
        {"xb", "a*b", 0, 1, 2}, {"ab", "a?b", 0, 0, 2}, {"aab", "a?b", 0, 1, 3}, {"aab", "xa??b", 0, -1, -1},
        {"ab\ncd", "^c", 0, 3, 4}, {"ab\ncd", "^b", 0, -1, -1}, {"ab\ncd", "b$", 0, 1, 2}, {"ab\ncd", "a$", 0, -1, -1},
        {"ab\ncd", "d$", 0, 4, 5}, {"ab\ncd", "^ab$", 0, 0, 2}, {"ab\ncd", "b$\n^c", 0, 1, 4}, {"ab\ncd", "^", 0, -1, -1},
        {"ab\ncd", "b^", 0, -1, -1}, {"ab\ncd", "$c", 0, -1, -1}, {"ab\ncd", "^*b", 0, 1, 2}, {"ab\ncd", "^+b", 0, -1, -1},
        {"ab\ncd", "^?b", 0, 1, 2}, {"ab\ncd", "(^|b)*", 0, 1, 2}, {"\n\n", "^$\n", 0, 0, 1}, {"\n\n", "^$\n", 1, 1, 2},
        {"bb", "(^b)+", 0, 0, 1}, {"b\nb", "(^b\n?)+", 0, 0, 3}, {"bbx", "(b*)*x", 0, 0, 3}, {"bb", "((b?)+)*", 0, 0, 2},
        {"a-z", "[a-z]", 1, 2, 3}, {"a-z", "[z-a]", 1, 1, 2}, {"a-z", "[az-]", 1, 1, 2}, {"a-z", "[-az]", 1, 1, 2},
        {"b-f", "[a-c-e]", 1, 1, 2}, {"dxe", "[a-c-e]", 0, 2, 3}, {"^a", "[^^]", 0, 1, 2}, {"a^", "[a^]", 1, 1, 2},
        {"a]b", "[^a]", 0, 1, 2}, {"\\", "[\\]", 0, 0, 1}, {"]", "\\]", 0, 0, 1}, {"x]", "[\\x]\\]", 0, 0, 2},
        {".-0", "[---0]", 0, 1, 2}, {".-0", "[--0]", 0, 0, 1}, {"a~ ", "[ -~]+", 0, 0, 3}, {"{,}", "{,}", 0, 0, 3},
        {"@?", "[?-@]+", 0, 0, 2}, {"abcd", "a(b|c|)(c|)d", 0, 0, 4}, {"ad", "a(b|c|)d", 0, 0, 2}, {"ab", "(|a)b", 0, 0, 2},
        {"aaaa", "((((((((a))))))))+", 1, 1, 4}, {"foo(bar)", "\\(.*\\)", 0, 3, 8}, {"aXbX", ".*X", 0, 0, 4},
        {"abcabc", "(a|b|c)+", 2, 2, 6}, {"abc", "abc|ab|a", 0, 0, 3}, {"abx", "abc|ab|a", 0, 0, 2}, {"aab", "a+?b", 0, 0, 3}
    };

    public static void main(String[] args) {
        for (Object[] row : MATCHES) {
            matching((String) row[0], (String) row[1], (Integer) row[2], (Integer) row[3], (Integer) row[4]);
        }
        order();
        markAndCursor();
        longText();
        Check.end();
    }

    private static void matching(String text, String pattern, int place, int i, int j) {
        DraftTree x = Check.withText(text);
        Check.compile(x, pattern);
        String what = "find of " + pattern + " in " + text + " from " + place;
        if (i < 0) {
            Check.refused(x, what, Check.MISSING, () -> x.find(place));
            return;
        }
        try {
            Check.same(what, x.find(place), i);
        } catch (java.util.NoSuchElementException e) {
            Check.same(what, "thrown", "nothing");
        }
        Check.same("mark after " + what, Check.mark(x), i);
        Check.same("cursor after " + what, Check.cursor(x), j);
        Check.same("states after " + what, x.figure(1), 2);
    }

    private static void order() {
        DraftTree x = Check.withText("abc");
        Check.refused(x, "no pattern, no place", Check.STATE, () -> x.find(9));
        Check.compile(x, "z");
        int[] places = {-1, 4, Integer.MIN_VALUE, Integer.MAX_VALUE};
        for (int place : places) {
            Check.refused(x, "no place " + place, Check.BOUNDS, () -> x.find(place));
        }
        x.go(1, true);
        Check.refused(x, "no match", Check.MISSING, () -> x.find(0));
        Check.refused(x, "no match from the end on", Check.MISSING, () -> x.find(3));
    }

    private static void markAndCursor() {
        DraftTree x = Check.withText("one two one");
        Check.compile(x, "one");
        x.find(1);
        Check.type(x, "six");
        x.insert();
        Check.same("insert over what was found", Check.text(x), "one two six");
        x.undo();
        Check.same("place where it was left", Check.cursor(x), 11);
        Check.same("no mark after undo", Check.mark(x), -1);
    }

    private static void longText() {
        DraftTree x = Check.withText(Check.times("a", 159) + "b");
        Check.compile(x, "(((a?)*)*)*(a*)*(a|a)*b");
        for (int turn = 0; turn < 100; turn++) {
            Check.same("find in a full text", x.find(turn), turn);
            Check.same("its end", Check.cursor(x), 160);
        }
        Check.compile(x, "((a*)*|(a+)+|a?)*[^ab]");
        Check.refused(x, "no match in a full text", Check.MISSING, () -> x.find(0));
        Check.compile(x, Check.times("a?", 12));
        Check.same("a chain of ?", x.find(0), 0);
        Check.same("its end", Check.cursor(x), 12);
        Check.compile(x, "b" + Check.times("?", 23));
        Check.same("many ?", x.find(0), 159);
    }
}
