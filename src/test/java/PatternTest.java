/** Promises 7 and 8: compile, fault; what is a pattern. */
final class PatternTest {
    private static final String[] PATTERNS = {
        "", "|", "||", "()", "(|)", "(|a)", "a|", "|a", "(a)", "a", " ", "~", "\n", "{}-,:!", "-",
        "a*", "a+", "a?", "a**", "a*+?", "()*", "(a)+", "^*", "$+", ".?", "[a]*", "\\a+", "^^$$", ".", "^", "$",
        "[a]", "[^a]", "[ab]", "[a-z]", "[a-a]", "[b-a]", "[-]", "[--]", "[---]", "[----]", "[a-]", "[-a]", "[^-]", "[^^]",
        "[a^]", "[^a-z]", "[[]", "[\\]", "[(|)*+?.$]", "[\n]", "[ -~]", "[\n-~]", "[^\n]",
        "\\\\", "\\]", "\\[", "\\(", "\\)", "\\|", "\\*", "\\+", "\\?", "\\.", "\\^", "\\$", "\\\n", "\\a", "\\ ", "\\-",
        "((((((((a))))))))", "(a(b(c(d(e(f(g(h))))))))", "(((((((())))))))()", "(((((((()())))))))",
        "((((((((\\())))))))", "(((((((([(]))))))))", "()()()()()()()()()()()()", "||||||||||||||||||||||||",
        "a???????????????????????", "a***********************", "a+++++++++++++++++++++++", "()??????????????????????",
        "\\a\\a\\a\\a\\a\\a\\a\\a\\a\\a\\a\\a", "[aaaaaaaaaaaaaaaaaaaaaa]", "[^aaaaaaaaaaaaaaaaaaaaa]", "aaaaaaaaaaaaaaaaaaaaaaaa"
    };

    /** A row of characters that is no pattern, and its longest beginning that is also one of a pattern. */
    private static final Object[][] FAULTS = {
        {"*", 0}, {"+", 0}, {"?", 0}, {"*a", 0}, {"a|*", 2}, {"a|+", 2}, {"|?", 1}, {"(*", 1}, {"(+a)", 1}, {"(a|?)", 3},
        {")", 0}, {"a)", 1}, {"())", 2}, {"(a))", 3}, {"|)", 1}, {"a**)", 3}, {"]", 0}, {"a]", 1}, {"[a]]", 3}, {"(])", 1},
        {"(", 1}, {"(a", 2}, {"(a|", 3}, {"(()", 3}, {"a(", 2}, {"(a*", 3}, {"(\\)", 3}, {"([)]", 4},
        {"[", 1}, {"[^", 2}, {"[]", 1}, {"[^]", 2}, {"[]a]", 1}, {"[^]a]", 2}, {"a[]", 2}, {"[a", 2}, {"[^a", 3}, {"[a-", 3},
        {"[a-b", 4}, {"[b-a", 4}, {"[-", 2}, {"[\\]]", 3}, {"[\\]a]", 4}, {"[a-]]", 4}, {"([a)", 4}, {"[a][]", 4},
        {"\\", 1}, {"a\\", 2}, {"(\\", 2}, {"\\\\\\", 3}, {"a|\\", 3},
        {"((((((((", 8}, {"(((((((((", 8}, {"(((((((((a)))))))))", 8}, {"()((((((((()))))))))", 10}, {"(a(b(c(d(e(f(g(h(i", 16},
        {"((((((((a)))))))))", 17}, {"(((((((()(()", 10}, {"[(]((((((((((", 11}, {"\\(((((((((((", 10},
        {"((((((((aaaaaaaaaaaaaaaa", 24}, {"[aaaaaaaaaaaaaaaaaaaaaaa", 24}, {"aaaaaaaaaaaaaaaaaaaaaaa\\", 24},
        {"aaaaaaaaaaaaaaaaaaaaaaa)", 23}, {"aaaaaaaaaaaaaaaaaaaaaaa(", 24}, {"*aaaaaaaaaaaaaaaaaaaaaaa", 0}, {"a)*", 1}, {"*)", 0},
        {"aaaaaaaaaaaaaaaaaaaaaaa[", 24}, {"aaaaaaaaaaaaaaaaaaaaaa[^", 24}, {"aaaaaaaaaaaaaaaaaaaaaa[a", 24},
        {"aaaaaaaaaaaaaaaaaaaaa[a-", 24}, {"aaaaaaaaaaaaaaaaaaaa[a-z", 24}, {"aaaaaaaaaaaaaaaaaaaaaa[]", 23}
    };

    public static void main(String[] args) {
        reading();
        faults();
        theFormerPatternStays();
        theSlipStays();
        onePatternAfterTheOther();
        formerCharactersOfTheSlip();
        faultWithoutOne();
        faultOfTheLatest();
        faultOutlivesOtherCalls();
        Check.end();
    }

    private static void reading() {
        Run before = new Run().text("ab").keep(0).type(")").compile().wipe();
        for (String pattern : PATTERNS) {
            Run run = before.pattern(pattern).answers("done").sees("ab", 1, 2, 0, 2, 0);
            run.fault().answers(-1);
            new Run().pattern(pattern).find(0).refused(Check.MISSING);
        }
    }

    private static void faults() {
        for (Object[] row : FAULTS) {
            Run run = new Run().type((String) row[0]).compile().refusedButForFault(Check.ARGUMENT);
            run.fault().answers(row[1]);
            run.find(0).refused(Check.STATE);
            run.replace().refused(Check.STATE);
        }
    }

    private static void theFormerPatternStays() {
        Run run = new Run().text("abab").pattern("b");
        String[] wrong = {"aa)", "a(", "[a", "a*b+a?\\", "(((((((((", "a|b|*"};
        for (String slip : wrong) {
            Run later = run.type(slip).keep(1).compile().refusedButForFault(Check.ARGUMENT);
            later.find(0).answers(1).find(2).answers(3).figure(2).answers(4);
            later.wipe().type("c").replace().answers(2).sees("acac", 2, 3, 4, -1, 0);
        }
        run.pattern("a").answers("done").find(1).answers(2);
        run.compile().answers("done").find(0).refused(Check.MISSING);
    }

    private static void theSlipStays() {
        new Run().type("a)").compile().wipe().answers(2);
        new Run().type("a)").compile().insert().sees("a)", 1, 2, 2, -1, 0);
        new Run().type("(").compile().type("a)").compile().answers("done").figure(4).answers(0);
        new Run().type("a)").compile().compile().refused(Check.ARGUMENT);
    }

    private static void onePatternAfterTheOther() {
        Run run = new Run().text("ab12");
        String[] patterns = {"a", "1", "b", "2", "[^a]", "(1|2)", "b", "[b-~]", "1*", "a?b"};
        int[] starts = {0, 2, 1, 3, 1, 2, 1, 1, 2, 0};
        int[] ends = {1, 3, 2, 4, 2, 3, 2, 2, 3, 2};
        for (int k = 0; k < patterns.length; k++) {
            run = run.pattern(patterns[k]).find(0).answers(starts[k]).sees("ab12", 1, 2, ends[k], starts[k], 0);
            run = run.type("[1a]*[1a](").compile().wipe();
        }
    }

    /** What was in the slip before it was made empty is no part of what is read. */
    private static void formerCharactersOfTheSlip() {
        String[][] rows = {{"[a]", "["}, {"[^a]", "["}, {"[^a]", "[^"}, {"[a-z]", "[a"}, {"[a-z]", "[a-"}, {"[a-z]", "[a-z"}};
        for (String[] row : rows) {
            Run run = new Run().type(row[0]).wipe().type(row[1]).compile().refusedButForFault(Check.ARGUMENT);
            run.fault().answers(row[1].length());
        }
        new Run().type("\\a").wipe().type("\\").compile().refusedButForFault(Check.ARGUMENT).fault().answers(1);
        new Run().type("(a)").wipe().type("(a").compile().refusedButForFault(Check.ARGUMENT).fault().answers(2);
        new Run().type("a)").wipe().pattern("a").answers("done");
        new Run().text("ab").type("b+").wipe().pattern("a").find(0).answers(0).figure(2).answers(1);
        new Run().text("b").type("ab").wipe().pattern("").find(0).refused(Check.MISSING);
    }

    private static void faultWithoutOne() {
        new Run().fault().answers(-1);
        new Run().type("*").fault().answers(-1);
        new Run().pattern("a").fault().answers(-1);
        new Run().compile().fault().answers(-1);
        new Run().undo().fault().answers(-1);
        new Run().find(0).fault().answers(-1);
        new Run().jump(1).fault().answers(-1);
    }

    private static void faultOfTheLatest() {
        Run run = new Run().type("ab)").compile();
        run.fault().answers(2).fault().answers(2);
        run.wipe().type("*").compile().fault().answers(0);
        run.type("(").compile().fault().answers(2);
        run.wipe().type("abcd(").compile().fault().answers(5);
        run.wipe().pattern("a").fault().answers(-1);
        run.wipe().compile().fault().answers(-1);
        run.wipe().pattern("a").type("]").compile().fault().answers(0);
    }

    private static void faultOutlivesOtherCalls() {
        Run run = new Run().text("abc").pattern("b").type("aa)").compile();
        Run[] later = {
            run.type("x"), run.type(9), run.wipe(), run.insert(), run.erase(-1), run.go(0), run.keep(0), run.find(0), run.replace(),
            run.undo(), run.undo().redo(), run.jump(1), run.length(), run.at(0), run.line(0, 0), run.figure(0), run.parent(0),
            run.go(9), run.find(9), run.find(3), run.undo().undo(), run.redo(), run.jump(9), run.at(3), run.line(4, 0), run.figure(5),
            run.parent(9), run.wipe().insert()
        };
        for (Run one : later) {
            one.fault().answers(2);
        }
    }
}
