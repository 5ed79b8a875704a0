/** Promise 9: find; what a pattern fits, and which match is the first one. */
final class FindTest {
    private static final int NO = -1;

    /** Text, pattern, place, then i and j of the match. */
    private static final Object[][] MATCHES = {
        {"abc", "b", 0, 1, 2}, {"abc", "b", 1, 1, 2}, {"abc", "b", 2, NO, NO}, {"abc", "c", 3, NO, NO}, {"abc", "B", 0, NO, NO},
        {"a.c", "\\.", 0, 1, 2}, {"n\\a", "\\n", 0, 0, 1}, {"n\\a", "\\\\", 0, 1, 2}, {"]", "\\]", 0, 0, 1}, {"{,}", "{,}", 0, 0, 3},
        {"a\nb", "a\nb", 0, 0, 3}, {"a\nb", "\\\n", 0, 1, 2}, {"foo(bar)", "\\(.*\\)", 0, 3, 8},
        // The point, and sets.
        {"a\nb", ".", 0, 0, 1}, {"a\nb", ".", 1, 2, 3}, {"a\nb", "a.b", 0, NO, NO}, {"\n\n", ".", 0, NO, NO}, {" ~", ".", 1, 1, 2},
        {"aXbX", ".*X", 0, 0, 4}, {"aX\nbX", ".*X", 0, 0, 2}, {"`abz{", "[a-z]+", 0, 1, 4}, {"`aabz{", "[b-b]+", 0, 3, 4},
        {"a~ ", "[ -~]+", 0, 0, 3}, {"\n a", "[ -~]+", 0, 1, 3}, {"\n a", "[\n- ]+", 0, 0, 2}, {">?@A", "[?-@]+", 0, 1, 3},
        {"a\nb", "[^a]", 0, 1, 2}, {"a\nb", "[^a]+", 0, 1, 3}, {"ab\n", "[^a\n]+", 0, 1, 2}, {"abcd", "[^b-c]+", 1, 3, 4},
        {"a-z", "[a-z]", 1, 2, 3}, {"a-z", "[z-a]", 1, 1, 2}, {"bzma", "[z-a]", 0, 1, 2}, {"bzma", "[z-a]", 2, 3, 4},
        {"a-z", "[az-]", 1, 1, 2}, {"a-z", "[-az]", 1, 1, 2}, {"b-a", "[^-]", 1, 2, 3}, {"a-", "[-]", 0, 1, 2}, {"a-", "[--]", 0, 1, 2},
        {"b-f", "[a-c-e]", 1, 1, 2}, {"dxe", "[a-c-e]", 0, 2, 3}, {".-0", "[---0]", 0, 1, 2}, {".-0", "[--0]", 0, 0, 1},
        {",/-", "[--/]", 0, 1, 2}, {"^a", "[^^]", 0, 1, 2}, {"a^", "[a^]", 1, 1, 2}, {"a]b", "[^a]", 0, 1, 2}, {"a[", "[[]", 0, 1, 2},
        {"\\", "[\\]", 0, 0, 1}, {"x]", "[\\x]\\]", 0, 0, 2}, {"a.|*", "[*|]+", 0, 2, 4},
        {"!.a", "[.]", 0, 1, 2}, {"a$", "[$]", 0, 1, 2}, {"a\\-b", "[a\\-b]+", 0, 0, 2},
        // Line ends and begins.
        {"ab\ncd", "^a", 0, 0, 1}, {"ab\ncd", "^c", 0, 3, 4}, {"ab\ncd", "^b", 0, NO, NO}, {"ab\ncd", "^\n", 0, NO, NO},
        {"ab\ncd", "b$", 0, 1, 2}, {"ab\ncd", "d$", 0, 4, 5}, {"ab\ncd", "a$", 0, NO, NO}, {"ab\ncd", "\n$", 0, NO, NO},
        {"ab\ncd", "^ab$", 0, 0, 2}, {"ab\ncd", "b$\n^c", 0, 1, 4}, {"ab\ncd", "^", 0, NO, NO}, {"ab\ncd", "$", 0, NO, NO},
        {"ab\ncd", "b^", 0, NO, NO}, {"ab\ncd", "$c", 0, NO, NO}, {"ab\ncd", "$\n", 0, 2, 3}, {"ab\n", "\n^", 0, 2, 3},
        {"ab\n", "\n^$", 0, 2, 3}, {"ab\n", "\n$", 0, 2, 3}, {"\nab", "^$\n", 0, 0, 1}, {"\nab", "^\n^a", 0, 0, 2}, {"\n\n", "^$\n", 1, 1, 2},
        {"ab", "^ab$", 0, 0, 2}, {"ab", "^ab$", 1, NO, NO}, {"ab", "^b", 1, NO, NO}, {"a^$", "\\^\\$", 0, 1, 3},
        {"ab\ncd", "^*b", 0, 1, 2}, {"ab\ncd", "^+b", 0, NO, NO}, {"ab\ncd", "^?b", 0, 1, 2}, {"ab\ncd", "(^|b)*", 0, 1, 2},
        {"bb", "(^b)+", 0, 0, 1}, {"b\nb", "(^b\n?)+", 0, 0, 3}, {"ab", "(a$|a)b", 0, 0, 2}, {"^a", "a|^", 0, 1, 2},
        {"aab", "a^?b", 0, 1, 3}, {"aab", "a$?b", 0, 1, 3}, {"a\nb", "a$?\n^?b", 0, 0, 3}, {"aa", "a(^|$)a", 0, NO, NO},
        // Rows and choices.
        {"abc", "", 0, NO, NO}, {"abc", "()|x*", 0, NO, NO}, {"abc", "|b", 0, 1, 2}, {"abc", "b|", 0, 1, 2}, {"abc", "x||c", 0, 2, 3},
        {"abcd", "a(b|c|)(c|)d", 0, 0, 4}, {"ad", "a(b|c|)d", 0, 0, 2}, {"ab", "(|a)b", 0, 0, 2}, {"acbd", "ab|cd|bd", 0, 2, 4},
        {"abab", "(ab|aba)", 0, 0, 3}, {"abc", "a(b|bc)", 0, 0, 3}, {"abcd", "(a|ab)(c|bcd)", 0, 0, 4}, {"axd", "ab|cd", 0, NO, NO},
        // Signs behind a part.
        {"xb", "a?b", 0, 1, 2}, {"aab", "a?b", 0, 1, 3}, {"ab", "a?b", 0, 0, 2}, {"ab", "ab?", 0, 0, 2}, {"aab", "xa??b", 0, NO, NO},
        {"xb", "a*b", 0, 1, 2}, {"xab", "a*b", 0, 1, 3}, {"xaab", "a*b", 0, 1, 4}, {"aaab", "a*", 0, 0, 3}, {"baaa", "a*", 0, 1, 4},
        {"xb", "a+b", 0, NO, NO}, {"xab", "a+b", 0, 1, 3}, {"xaab", "a+b", 0, 1, 4}, {"aab", "a+?b", 0, 0, 3}, {"b", "a+?b", 0, 0, 1},
        {"aab", "a?+b", 0, 0, 3}, {"b", "a?+b", 0, 0, 1}, {"b", "a+*b", 0, 0, 1}, {"aab", "a**b", 0, 0, 3}, {"b", "a++b", 0, NO, NO},
        {"aa", "a??", 0, 0, 1}, {"abab", "(ab)*a?", 0, 0, 4}, {"ababx", "(ab)+x", 0, 0, 5}, {"abbx", "(ab)+x", 0, NO, NO},
        {"abb", "ab+", 0, 0, 3}, {"abab", "ab+", 0, 0, 2}, {"bbx", "(b*)*x", 0, 0, 3}, {"bb", "((b?)+)*", 0, 0, 2}, {"ab", "()*b", 0, 1, 2},
        {"ab", "()+b", 0, 1, 2}, {"abcabc", "(a|b|c)+", 2, 2, 6}, {"aaaa", "((((((((a))))))))+", 1, 1, 4}, {"xaab", "(x|a)*b", 1, 1, 4},
        // The least i, then the greatest j.
        {"aaa", "a|aa", 0, 0, 2}, {"aaa", "aa|a", 0, 0, 2}, {"aaa", "aa|a", 1, 1, 3}, {"aaa", "aa|a", 2, 2, 3}, {"aab", "a+b", 1, 1, 3},
        {"xabb", "b+|a", 0, 1, 2}, {"abc", "abc|ab|a", 0, 0, 3}, {"abx", "abc|ab|a", 0, 0, 2}, {"abxabc", "abc|bx", 0, 1, 3}
    };

    public static void main(String[] args) {
        for (Object[] row : MATCHES) {
            matching((String) row[0], (String) row[1], (Integer) row[2], (Integer) row[3], (Integer) row[4]);
        }
        everyCharacter();
        everyRange();
        theExceptionNamedFirst();
        firstAndLastPlace();
        emptyText();
        markAndCursor();
        fullText();
        longestPatterns();
        theTextOfThePresentState();
        Check.end();
    }

    private static void matching(String text, String pattern, int place, int i, int j) {
        Run run = new Run().text(text).pattern(pattern).find(place);
        if (i == NO) {
            run.refused(Check.MISSING);
        } else {
            run.answers(i).sees(text, 1, 2, j, i, 0);
        }
    }

    /** All characters, in the order of their codes. */
    private static String alphabet() {
        StringBuilder all = new StringBuilder("\n");
        for (char c = 32; c <= 126; c++) {
            all.append(c);
        }
        return all.toString();
    }

    private static void everyCharacter() {
        Run run = new Run().text(alphabet());
        for (int i = 0; i < 96; i++) {
            char c = alphabet().charAt(i);
            onlyAt(run.pattern("\\" + c), i);
            if ("()[]|*+?.^$\\".indexOf(c) < 0) {
                onlyAt(run.pattern("" + c), i);
            }
            if (c != ']' && c != '^') {
                onlyAt(run.pattern("[" + c + "]"), i);
            }
            if (c != ']') {
                runsTo(run.pattern("[^" + c + "]+"), i == 0 ? 1 : 0, i == 0 ? 96 : i);
            }
        }
        runsTo(run.pattern(".+"), 1, 96);
    }

    private static void everyRange() {
        Run run = new Run().text(alphabet());
        for (int i = 0; i < 96; i++) {
            char c = alphabet().charAt(i);
            if (c == ']') {
                continue;
            }
            runsTo(run.pattern("[\n-" + c + "]+"), 0, i + 1);
            runsTo(run.pattern("[^" + c + "-~]+"), i == 0 ? NO : 0, i);
            if (c != '^') {
                runsTo(run.pattern("[" + c + "-~]+"), i, 96);
            }
        }
    }

    private static void onlyAt(Run run, int i) {
        runsTo(run, i, i + 1);
        run.find(i + 1).answers(Check.MISSING);
    }

    private static void runsTo(Run run, int i, int j) {
        if (i == NO) {
            run.find(0).answers(Check.MISSING);
        } else {
            run.find(0).answers(i).figure(2).answers(j);
        }
    }

    private static void theExceptionNamedFirst() {
        Run none = new Run().text("abc").keep(1).type("b");
        Run some = new Run().text("abc").pattern("z").keep(1).type("b");
        int[] places = {-1, 4, Integer.MIN_VALUE, Integer.MAX_VALUE};
        for (int place : places) {
            none.find(place).refused(Check.STATE);
            some.find(place).refused(Check.BOUNDS);
        }
        none.find(0).refused(Check.STATE);
        some.find(0).refused(Check.MISSING);
        none.type(")").compile().find(0).refused(Check.STATE);
    }

    private static void firstAndLastPlace() {
        Run run = new Run().text("aba").pattern("a").go(1);
        run.find(0).answers(0).sees("aba", 1, 2, 1, 0, 0);
        run.find(1).answers(2).sees("aba", 1, 2, 3, 2, 0);
        run.find(2).answers(2).sees("aba", 1, 2, 3, 2, 0);
        run.find(3).refused(Check.MISSING);
        run.find(4).refused(Check.BOUNDS);
        run.find(-1).refused(Check.BOUNDS);
    }

    private static void emptyText() {
        String[] patterns = {"", "a", "a*", "^", "$", "^$", "[^a]", "(|a)"};
        for (String pattern : patterns) {
            new Run().pattern(pattern).find(0).refused(Check.MISSING);
            new Run().pattern(pattern).find(1).refused(Check.BOUNDS);
            new Run().pattern(pattern).find(-1).refused(Check.BOUNDS);
        }
    }

    private static void markAndCursor() {
        Run run = new Run().text("one two one").pattern("one").type("six");
        run.keep(4).find(1).answers(8).sees("one two one", 1, 2, 11, 8, 3);
        run.find(0).find(1).insert().sees("one two six", 2, 3, 11, -1, 0);
        run.find(0).keep(0).sees("one two one", 1, 2, 0, -1, 3);
        run.find(0).keep(2).sees("one two one", 1, 2, 2, 0, 3);
        run.find(0).erase(0).answers(3).sees(" two one", 2, 3, 0, -1, 3);
        run.find(8).undo().redo().sees("one two one", 1, 2, 11, -1, 3);
        run.states(40).find(0).answers(0).figure(1).answers(40);
    }

    private static void fullText() {
        Run run = new Run().text("a".repeat(159) + "b");
        run.pattern("a+b").find(0).answers(0).figure(2).answers(160);
        run.pattern("b").find(0).answers(159).figure(2).answers(160);
        run.pattern("b").find(159).answers(159);
        run.pattern("b").find(160).refused(Check.MISSING);
        run.pattern("b").find(161).refused(Check.BOUNDS);
        run.pattern("a").find(159).refused(Check.MISSING);
        run.pattern("(((a?)*)*)*(a*)*(a|a)*b").find(100).answers(100).figure(2).answers(160);
        run.pattern("((a*)*|(a+)+|a?)*[^ab]").find(0).refused(Check.MISSING);
        new Run().text("\n".repeat(160)).pattern("^$\n^$").find(159).answers(159);
    }

    private static void longestPatterns() {
        Run run = new Run().text("a".repeat(23) + "b" + "a".repeat(24));
        run.pattern("a".repeat(24)).find(0).answers(24).figure(2).answers(48);
        run.pattern("a?".repeat(12)).find(0).answers(0).figure(2).answers(12);
        run.pattern("b" + "?".repeat(23)).find(0).answers(23).figure(2).answers(24);
        run.pattern("()".repeat(12)).find(0).refused(Check.MISSING);
        run.pattern("|".repeat(23) + "b").find(0).answers(23);
        run.pattern("b" + "|".repeat(23)).find(0).answers(23);
        run.pattern("((((((((b)?)?)?)?))))").find(0).answers(23);
        run.pattern("(b|(b|(b|(b|(b|(b))))))").find(0).answers(23);
        run.pattern("[^" + "a".repeat(21) + "]").find(0).answers(23);
        run.pattern("\\b" + "\\a".repeat(11)).find(0).answers(23).figure(2).answers(35);
    }

    private static void theTextOfThePresentState() {
        Run run = new Run().text("ab").text("cd").pattern("c");
        run.find(0).answers(2);
        run.undo().find(0).refused(Check.MISSING);
        run.undo().find(3).refused(Check.BOUNDS);
        run.undo().redo().find(0).answers(2);
    }
}
